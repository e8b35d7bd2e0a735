/** Promises 18 to 22: feed, duties, fault, act, duty. */
public final class DutiesTest {
    private static final int BAD = PortRooms.BAD, NONE = PortRooms.NONE, FULL = PortRooms.FULL;

    public static void main(String[] args) {
        feed();
        feedFull();
        texts();
        faults();
        lines();
        linesStay();
        act();
        duty();
        dutyByDays();
        dutyBad();
        Due.end();
    }

    static void feedText(PortRooms x, String text) {
        for (int k = 0; k < text.length(); k += 8) {
            int n = Math.min(8, text.length() - k);
            long w = 0;
            for (int j = 0; j < n; j++) {
                w = w << 8 | text.charAt(k + j) & 255;
            }
            x.feed(w, n);
        }
    }

    private static int read(PortRooms x, String text) {
        feedText(x, text);
        return x.duties();
    }

    private static void feed() {
        PortRooms x = new PortRooms(0);
        Due.due("P18 none", x.feed(0, 0), BAD);
        Due.due("P18 nine", x.feed(0, 9), BAD);
        Due.due("P18 below", x.feed(0, -1), BAD);
        Due.due("P18 one", x.feed(-1L, 1), 1);
        Due.due("P18 eight", x.feed(0L, 8), 9);
        Due.due("P18 count", x.count(9), 9);
        Due.due("P18 byte 255 is no token", x.duties(), -1000100);
        Due.due("P18 the tape is empty then", x.count(9), 0);
        // The lowest bytes alone, the highest of them first: "out part 7;" behind bytes that do not come.
        x.feed(0x6161616100000000L | 'o' << 16 | 'u' << 8 | 't', 3);
        x.feed(0x20706172742037L, 7);
        x.feed(0x5a5a5a5a5a5a5a3bL, 1);
        Due.due("P18 as it was fed", x.duties(), 1);
        Due.due("P18 a first byte above 127", x.feed(0x8000000000000000L, 8), 8);
        Due.due("P18 is no token", x.duties(), -1000100);
    }

    private static void feedFull() {
        PortRooms x = new PortRooms(0);
        for (int k = 1; k <= 37; k++) {
            x.feed(0x2020202020202020L, 8);
        }
        Due.due("P18 296", x.count(9), 296);
        Due.due("P18 none comes", x.feed(0x2020202020202020L, 5), FULL);
        Due.due("P18 still 296", x.count(9), 296);
        Due.due("P18 BAD ahead of FULL", x.feed(0, 9), BAD);
        Due.due("P18 just so many", x.feed(0x20202020L, 4), 300);
        Due.due("P18 full", x.feed(32, 1), FULL);
        Due.due("P19 blanks alone are no lines", x.duties(), 0);
        Due.due("P18 again", x.feed(32, 1), 1);
    }

    private static void texts() {
        PortRooms x = new PortRooms(0);
        Due.due("P19 nothing", read(x, ""), 0);
        Due.due("P19 each word", read(x, "sold part 1;shown part 2;out part 3;mended part 4;"), 4);
        Due.due("P19 nothing between", read(x, "sold>5part100;out>0part0;"), 2);
        Due.due("P19 bytes 32 and 10", read(x, "\n sold \n>\n5  part\n100 ;\n\n"), 1);
        Due.due("P19 four figures", read(x, "sold > 9999 part 0100;"), 1);
        Due.due("P19 no faults", x.fault(), 0);
        Due.due("P19 nothing again", read(x, ""), 0);
        Due.due("P19 no lines from now on", x.count(5), 0);
    }

    private static void faults() {
        String[] texts = {
            "sold", "sold ", "sold\n\n part", "sold part 5", "sold > ", "sold > 5", "sold part 5;shown",
            "part 5;", "5", ";", ">", "  sole part 5;", "sol part 5;", "solds part 5;", "mendedx part 5;",
            "mendedpart 5;", "soldpart 5;", "soldz part 5;", "bold part 5;", "asold part 5;", "sold aart 5;", "sold parts 5;", "sold par 5;", "sold sold 5;", "sold 5;", "sold ;",
            "sold > part 5;", "sold > > 5 part 5;", "sold > ; part", "sold > 12345 part 5;", "sold > 5 5 part 5;",
            "sold part part;", "sold part >5;", "sold part ;", "sold part 00001;", "sold part 5 5;", "sold part 5 >",
            "sold part 5 sold", "sold part 5;;", "Sold part 5;", "sold Part 5;", "sold\tpart 5;", "sold\rpart 5;",
            "sold part 5:", "sold = 5 part 5;", "sold part -5;", "sold part 5;`", "sold part 5;{", "sold part /;",
            "sold part 101;", "sold part 9999;", "sold part 101", "sold > 101 part 102;", "sold part 1;sold part 999 x",
            "sold part 5\u00e9;", "\0sold part 5;"};
        int[] want = {
            4, 5, 11, 11, 7, 8, 17,
            0, 0, 0, 0, 2, 0, 0, 0,
            0, 0, 0, 0, 0, 5, 5, 5, 5, 5, 5,
            7, 7, 7, 7, 9,
            10, 10, 10, 10, 12, 12,
            12, 12, 0, 5, 4, 4,
            11, 5, 10, 12, 12, 10,
            10, 10, 10, 16, 22,
            11, 0};
        for (int k = 0; k < texts.length; k++) {
            PortRooms x = new PortRooms(0);
            Due.due("P19 \"" + texts[k] + "\"", read(x, texts[k]), -1000100 - want[k]);
            Due.due("P20 \"" + texts[k] + "\"", x.fault(), k >= 49 && k <= 53 ? 2 : 1);
            Due.due("P19 is empty then", x.count(9), 0);
        }
    }

    private static void lines() {
        StringBuilder twelve = new StringBuilder();
        for (int k = 0; k < 12; k++) {
            twelve.append("out part ").append(k).append(";\n");
        }
        PortRooms x = new PortRooms(0);
        Due.due("P19 twelve", read(x, twelve.toString()), 12);
        Due.due("P20 no fault", x.fault(), 0);
        Due.due("P19 the thirteenth", read(x, twelve + " out part 5;"), -1000100 - twelve.length() - 1);
        Due.due("P20 the thirteenth", x.fault(), 3);
        Due.due("P19 the thirteenth's word alone", read(x, twelve + "sold"), -1000100 - twelve.length());
        Due.due("P20 its word", x.fault(), 3);
        Due.due("P19 no word", read(x, twelve + "solda part 1;"), -1000100 - twelve.length());
        Due.due("P20 no word", x.fault(), 1);
        Due.due("P19 a sign", read(x, twelve + ";"), -1000100 - twelve.length());
        Due.due("P20 a sign", x.fault(), 1);
        Due.due("P19 the first fault", read(x, "out part 101;" + twelve), -1000109);
        Due.due("P20 the first fault", x.fault(), 2);
        Due.due("P20 the latest stays", read(x, "out part 1;"), 1);
        Due.due("P20 the latest", x.fault(), 2);
    }

    private static void linesStay() {
        PortRooms x = new PortRooms(0);
        x.crate(0, 1000);
        x.act(0, 0, 5, 5);
        read(x, "sold part 10; sold part 20;");
        Due.due("P19 read", x.duty(0, 0), 100);
        read(x, "sold part 30; sold > 5 part 101;");
        Due.due("P19 lines stay", x.duty(0, 0), 100);
        Due.due("P19 both", x.count(5), 2);
        read(x, "sold > 5 part 30; sold part 40;");
        Due.due("P19 lines from now on", x.duty(0, 0), 400);
        Due.due("P22 the second", x.duty(0, 2), 1);
    }

    private static void act() {
        PortRooms x = new PortRooms(0);
        Due.due("P21 no crate yet", x.act(0, 0, 0, 0), BAD);
        x.crate(0, 1);
        Due.due("P21 crate below", x.act(-1, 0, 0, 0), BAD);
        Due.due("P21 what", x.act(0, 4, 0, 0), BAD);
        Due.due("P21 what below", x.act(0, -1, 0, 0), BAD);
        Due.due("P21 day", x.act(0, 0, 10000, 0), BAD);
        Due.due("P21 day below", x.act(0, 0, -1, 0), BAD);
        Due.due("P21 days", x.act(0, 0, 0, 1000), BAD);
        Due.due("P21 days below", x.act(0, 0, 0, -1), BAD);
        for (int k = 1; k <= 60; k++) {
            Due.due("P21 the " + k, x.act(0, k % 4, k == 1 ? 9999 : k, k == 1 ? 999 : 0), k);
        }
        Due.due("P21 the 61st", x.act(0, 0, 0, 0), FULL);
        Due.due("P21 BAD ahead of FULL", x.act(1, 0, 0, 0), BAD);
        Due.due("P21 count", x.count(6), 60);
    }

    private static void duty() {
        PortRooms x = new PortRooms(0);
        x.crate(0, 999);
        x.crate(0, 100000);
        Due.due("P22 nothing", x.duty(0, 0), 0);
        Due.due("P22 no day", x.duty(0, 1), NONE);
        Due.due("P22 no line", x.duty(0, 2), NONE);
        x.act(0, 1, 40, 20);
        x.act(1, 2, 9999, 0);
        Due.due("P22 asleep", x.duty(0, 0), 0);
        read(x, "sold part 90; shown > 20 part 80; shown > 19 part 7; shown part 6; out part 100;");
        Due.due("P22 cut", x.duty(0, 0), 69);
        Due.due("P22 day", x.duty(0, 1), 40);
        Due.due("P22 the first such line", x.duty(0, 2), 2);
        Due.due("P22 the whole of the most", x.duty(1, 0), 100000);
        Due.due("P22 its day", x.duty(1, 1), 9999);
        Due.due("P22 its line", x.duty(1, 2), 4);
        read(x, "out > 0 part 50; shown part 0;");
        Due.due("P22 not more than told", x.duty(1, 1), NONE);
        Due.due("P22 a part of 0", x.duty(0, 0), 0);
        Due.due("P22 wakes, too", x.duty(0, 1), 40);
        Due.due("P22 by its line", x.duty(0, 2), 1);
    }

    private static void dutyByDays() {
        PortRooms x = new PortRooms(0);
        x.crate(0, 100);
        x.crate(0, 100);
        x.act(1, 0, 1, 0);
        x.act(0, 0, 50, 0);
        x.act(0, 1, 30, 0);
        x.act(0, 2, 30, 0);
        x.act(0, 3, 20, 0);
        read(x, "sold part 1; shown part 2; out part 3;");
        Due.due("P22 the first that wakes, of one day as told", x.duty(0, 0), 2);
        Due.due("P22 its day", x.duty(0, 1), 30);
        read(x, "sold part 1; out part 3;");
        Due.due("P22 another of the day", x.duty(0, 0), 3);
        Due.due("P22 its line", x.duty(0, 2), 1);
        read(x, "sold part 1; mended part 4;");
        Due.due("P22 an earlier day", x.duty(0, 0), 4);
        Due.due("P22 the other crate", x.duty(1, 0), 1);
        Due.due("P22 the other crate's day", x.duty(1, 1), 1);
        PortRooms y = new PortRooms(0);
        y.crate(0, 100);
        y.act(0, 0, 5, 0);
        y.act(0, 1, 5, 0);
        read(y, "shown part 2; sold part 1;");
        Due.due("P22 the one told first", y.duty(0, 0), 1);
    }

    private static void dutyBad() {
        PortRooms x = new PortRooms(0);
        Due.due("P22 no crate yet", x.duty(0, 0), BAD);
        x.crate(0, 1);
        Due.due("P22 no such crate", x.duty(1, 0), BAD);
        Due.due("P22 crate below", x.duty(-1, 0), BAD);
        Due.due("P22 what", x.duty(0, 3), BAD);
        Due.due("P22 what below", x.duty(0, -1), BAD);
    }
}
