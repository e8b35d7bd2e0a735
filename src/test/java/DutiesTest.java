/** Promises 18 to 22, and what the terms say of texts and acts: feed, duties, fault, act, duty. */
public final class DutiesTest {
    private static final int BAD = PortRooms.BAD, NONE = PortRooms.NONE, FULL = PortRooms.FULL;
    private static final int FAULTS = -1000100;

    public static void main(String[] args) {
        mostBytes();
        names();
        numbers();
        signs();
        bytesBetween();
        texts();
        textsBroken();
        mostDays();
        parts();
        mostLines();
        linesFromNowOn();
        firstFault();
        leastFault();
        cannotStandThere();
        isNone();
        theEnd();
        partAbove();
        thirteenthLine();
        mostActs();
        actNumbers();
        wakes();
        firstSuchLine();
        dutyByDays();
        dutyWithout();
        feed();
        feedHighestFirst();
        feedRefused();
        duties();
        linesStay();
        fault();
        act();
        actRefused();
        duty();
        dutyNone();
        dutyRefused();
        Due.end();
    }

    static void feedText(PortRooms x, String text) {
        for (int k = 0; k < text.length(); k += 8) {
            int n = Math.min(8, text.length() - k);
            long w = 0;
            for (int j = 0; j < n; j++) {
                w = w << 8 | text.charAt(k + j) & 255;
            }
            x.feed(w, n);
        }
    }

    private static int read(PortRooms x, String text) {
        feedText(x, text);
        return x.duties();
    }

    private static void reads(String text, int lines) {
        PortRooms x = new PortRooms(0);
        Due.due("\"" + text + "\"", read(x, text), lines);
        Due.due("\"" + text + "\": fault", x.fault(), 0);
    }

    private static void breaks(String text, int place, int fault) {
        PortRooms x = new PortRooms(0);
        Due.due("\"" + text + "\"", read(x, text), FAULTS - place);
        Due.due("\"" + text + "\": fault", x.fault(), fault);
        Due.due("\"" + text + "\": lines", x.count(5), 0);
    }

    /** A crate of a worth of 1000 with these acts (what, day, days). */
    private static PortRooms withActs(int... acts) {
        PortRooms x = new PortRooms(0);
        x.crate(0, 1000);
        for (int k = 0; k < acts.length; k += 3) {
            x.act(0, acts[k], acts[k + 1], acts[k + 2]);
        }
        return x;
    }

    private static PortRooms withText(String text, int... acts) {
        PortRooms x = withActs(acts);
        read(x, text);
        return x;
    }

    private static void mostBytes() {
        Due.says(0, "DUTIES, texts: THE TAPE has at most 300 bytes;");
        PortRooms x = new PortRooms(0);
        String text = "sold part 1;" + " ".repeat(276) + "out part 22;";
        feedText(x, text);
        Due.due("300", x.count(9), 300);
        Due.due("one more", x.feed(';', 1), FULL);
        Due.due("both ends are read", x.duties(), 2);
        feedText(x, " ".repeat(299));
        Due.due("two where one fits", x.feed(0x3b3b, 2), FULL);
        Due.due("one where one fits", x.feed(';', 1), 300);
        Due.due("the 300th is read", x.duties(), FAULTS - 299);
        feedText(x, " ".repeat(300));
        Due.due("300 of nothing", x.duties(), 0);
        feedText(x, " ".repeat(294) + "mended");
        Due.due("a name at the very end", x.duties(), FAULTS - 300);
        feedText(x, "out part " + " ".repeat(287) + "0100");
        Due.due("a number at the very end", x.duties(), FAULTS - 300);
    }

    private static void names() {
        Due.says(0, "TOKENS: NAMES (letters a to z, 6 at most),");
        reads("mended part 1;", 1);
        breaks("mendedx part 1;", 0, 1);
        breaks("mendedpart 1;", 0, 1);
        breaks("soldpart 1;", 0, 1);
        breaks("solda part 1;", 0, 1);
        breaks("soldz part 1;", 0, 1);
        breaks("sold partpart 1;", 5, 1);
        breaks("sold part 1;abcdefghijklmnopqrstuvwxyz", 12, 1);
        breaks("Sold part 1;", 0, 1);
        breaks("SOLD part 1;", 0, 1);
        breaks("sold Part 1;", 5, 1);
        breaks("`", 0, 1);
        breaks("{", 0, 1);
        breaks("a", 0, 1);
        breaks("z", 0, 1);
    }

    private static void numbers() {
        Due.says(0, "NUMBERS (figures, 4 at most),");
        reads("sold > 9999 part 0100;", 1);
        reads("sold > 0000 part 0;", 1);
        breaks("sold > 12345 part 5;", 7, 1);
        breaks("sold > 00001 part 5;", 7, 1);
        breaks("sold part 00001;", 10, 1);
        breaks("sold part 99999999999999999999;", 10, 1);
        breaks("sold part 4294967296;", 10, 1);
        breaks("sold part /;", 10, 1);
        breaks("sold part :;", 10, 1);
        breaks("sold part -5;", 10, 1);
        breaks("sold part 5x;", 11, 1);
        Due.due("9 is a figure, 0 is one", withText("sold part 90;", 0, 0, 0).duty(0, 0), 900);
        Due.due("a 0 ahead", withText("sold part 0009;", 0, 0, 0).duty(0, 0), 90);
    }

    private static void signs() {
        Due.says(0, "SIGNS ; >");
        reads("sold>1part 1;", 1);
        breaks("sold<1part 1;", 4, 1);
        breaks("sold=1part 1;", 4, 1);
        breaks("sold?1part 1;", 4, 1);
        breaks("sold part 1:", 11, 1);
        breaks("sold part 1<", 11, 1);
        breaks("sold part 1,", 11, 1);
    }

    private static void bytesBetween() {
        Due.says(0, "bytes 32 and 10 between.");
        reads("\n sold \n>\n5  part\n100 ;\n\n", 1);
        reads("sold>5part100;out>0part0;", 2);
        reads(" ", 0);
        reads("\n", 0);
        breaks("sold\tpart 5;", 4, 1);
        breaks("sold\rpart 5;", 4, 1);
        breaks("sold\013part 5;", 4, 1);
        breaks("sold\037part 5;", 4, 1);
        breaks("sold!part 5;", 4, 1);
        breaks("sold part 5\u00a0;", 11, 1);
        breaks("sold\u008apart 5;", 4, 1);
        breaks("sold \0", 5, 1);
        breaks("so ld part 5;", 0, 1);
        breaks("sold part 1 0;", 12, 1);
        breaks("sold part 1\n0;", 12, 1);
    }

    private static void texts() {
        Due.says(0, "text: { ( 'sold' | 'shown' | 'out' | 'mended' ) [ '>' NUMBER ] 'part' NUMBER ';' }:");
        reads("", 0);
        reads("sold part 1;", 1);
        reads("shown > 2 part 1;", 1);
        reads("sold part 1;shown part 2;out part 3;mended part 4;", 4);
        reads("sold > 1 part 1;shown > 2 part 2;out > 3 part 3;mended > 4 part 4;", 4);
        String[] words = {"sold", "shown", "out", "mended"};
        for (int what = 0; what < 4; what++) {
            PortRooms x = withText("sold part 1;shown part 2;out part 3;mended part 4;", what, 7, 0);
            Due.due(words[what] + " is its own act", x.duty(0, 0), 10 * (what + 1));
            Due.due(words[what] + " is its own line", x.duty(0, 2), what);
        }
    }

    private static void textsBroken() {
        Due.says(0, "text: { ( 'sold' | 'shown' | 'out' | 'mended' ) [ '>' NUMBER ] 'part' NUMBER ';' }:");
        breaks("part 5;", 0, 1);
        breaks("5", 0, 1);
        breaks(";", 0, 1);
        breaks(">", 0, 1);
        breaks("sol part 5;", 0, 1);
        breaks("  sole part 5;", 2, 1);
        breaks("solds part 5;", 0, 1);
        breaks("bold part 5;", 0, 1);
        breaks("sold aart 5;", 5, 1);
        breaks("sold par 5;", 5, 1);
        breaks("sold parts 5;", 5, 1);
        breaks("sold sold 5;", 5, 1);
        breaks("sold 5;", 5, 1);
        breaks("sold ;", 5, 1);
        breaks("sold > part 5;", 7, 1);
        breaks("sold > > 5 part 5;", 7, 1);
        breaks("sold > ; part", 7, 1);
        breaks("sold > 5 5 part 5;", 9, 1);
        breaks("sold > 5 > 5 part 5;", 9, 1);
        breaks("sold > 5;", 8, 1);
        breaks("sold part part;", 10, 1);
        breaks("sold part >5;", 10, 1);
        breaks("sold part ;", 10, 1);
        breaks("sold part 5 5;", 12, 1);
        breaks("sold part 5 > 3;", 12, 1);
        breaks("sold part 5 sold", 12, 1);
        breaks("sold part 5;;", 12, 1);
        breaks("sold part 5;part 5;", 12, 1);
    }

    private static void mostDays() {
        Due.says(0, "an act, perhaps for more than so many days,");
        Due.due("without: 0 days", withText("out part 5;", 2, 1, 0).duty(0, 0), 50);
        Due.due("more than 0: 0 days", withText("out > 0 part 5;", 2, 1, 0).duty(0, 0), 0);
        Due.due("more than 0: 1 day", withText("out > 0 part 5;", 2, 1, 1).duty(0, 0), 50);
        Due.due("more than 998: 998 days", withText("out > 998 part 5;", 2, 1, 998).duty(0, 0), 0);
        Due.due("more than 998: 999 days", withText("out > 998 part 5;", 2, 1, 999).duty(0, 0), 50);
        Due.due("more than 999: 999 days", withText("out > 999 part 5;", 2, 1, 999).duty(0, 0), 0);
        Due.due("more than 9999: 999 days", withText("out > 9999 part 5;", 2, 1, 999).duty(0, 0), 0);
    }

    private static void parts() {
        Due.says(0, "wakes a duty of a part by 100 (0 to 100) of the worth;");
        Due.due("0", withText("out part 0;", 2, 1, 0).duty(0, 0), 0);
        Due.due("0 is awake, too", withText("out part 0;", 2, 1, 0).duty(0, 1), 1);
        Due.due("1", withText("out part 1;", 2, 1, 0).duty(0, 0), 10);
        Due.due("100", withText("out part 100;", 2, 1, 0).duty(0, 0), 1000);
        breaks("out part 101;", 9, 2);
    }

    private static String lines(int n) {
        StringBuilder text = new StringBuilder();
        for (int k = 0; k < n; k++) {
            text.append("out > ").append(50 - k).append(" part ").append(k).append(";\n");
        }
        return text.toString();
    }

    private static void mostLines() {
        Due.says(0, "12 lines at most;");
        reads(lines(11), 11);
        reads(lines(12), 12);
        breaks(lines(13), lines(12).length(), 3);
        PortRooms x = withText(lines(12), 2, 3, 40);
        Due.due("the last line is kept", x.duty(0, 2), 11);
        Due.due("with its part", x.duty(0, 0), 110);
    }

    private static void linesFromNowOn() {
        Due.says(0, "they are the lines from now on.");
        PortRooms x = withText("sold part 10; sold part 20;", 0, 5, 5);
        Due.due("at first", x.duty(0, 0), 100);
        read(x, "sold > 5 part 30; sold part 40;");
        Due.due("another text", x.duty(0, 0), 400);
        Due.due("its second line", x.duty(0, 2), 1);
        read(x, "sold > 5 part 30;");
        Due.due("a shorter text", x.count(5), 1);
        Due.due("has nothing of the longer one", x.duty(0, 2), NONE);
        read(x, "");
        Due.due("an empty text", x.count(5), 0);
        Due.due("no line at all", x.duty(0, 2), NONE);
    }

    private static void firstFault() {
        Due.says(0, "FAULTS, the first TOKEN that has one (its first byte),");
        breaks("out part 101; out part 102; x", 9, 2);
        breaks("out part 1; x part 102;", 12, 1);
        breaks("out part  101" + lines(12), 10, 2);
        breaks("  \n soldout", 4, 1);
        breaks("sold part 12345", 10, 1);
    }

    private static void leastFault() {
        Due.says(0, "of one TOKEN the least:");
        breaks("sold 101", 5, 1);
        breaks("sold part 1 101", 12, 1);
        breaks("sold part 10101;", 10, 1);
        breaks(lines(12) + "part 5;", lines(12).length(), 1);
        breaks(lines(12) + "solda part 1;", lines(12).length(), 1);
        breaks(lines(12) + "101", lines(12).length(), 1);
    }

    private static void cannotStandThere() {
        Due.says(0, "1 it cannot stand there,");
        breaks("> 5 sold part 5;", 0, 1);
        breaks("sold part 5 shown part 6;", 12, 1);
        breaks("sold sold part 5;", 5, 1);
        breaks(lines(12) + ";", lines(12).length(), 1);
    }

    private static void isNone() {
        Due.says(0, "or is none");
        breaks("\0sold part 5;", 0, 1);
        breaks("sold part 5\u00e9;", 11, 1);
        breaks("\u00ff", 0, 1);
        breaks("\u007f", 0, 1);
        breaks("\u0080", 0, 1);
        breaks("abcdefg", 0, 1);
        breaks("12345", 0, 1);
    }

    private static void theEnd() {
        Due.says(0, "(the end: how many bytes there are);");
        breaks("sold", 4, 1);
        breaks("sold ", 5, 1);
        breaks("sold\n\n part", 11, 1);
        breaks("sold part 5", 11, 1);
        breaks("sold part 5  \n", 14, 1);
        breaks("sold > ", 7, 1);
        breaks("sold >", 6, 1);
        breaks("sold > 5", 8, 1);
        breaks("sold part 5;shown", 17, 1);
        reads("sold part 5; ", 1);
    }

    private static void partAbove() {
        Due.says(0, "2 a part above 100;");
        reads("sold part 100;", 1);
        breaks("sold part 101;", 10, 2);
        breaks("sold part 0101;", 10, 2);
        breaks("sold part 9999;", 10, 2);
        breaks("sold part 101", 10, 2);
        breaks("sold part 101 x", 10, 2);
        breaks("sold > 101 part 102;", 16, 2);
        reads("sold > 101 part 100;", 1);
        breaks("sold part 1;sold part 999 x", 22, 2);
    }

    private static void thirteenthLine() {
        Due.says(0, "3 the 13th line (its word).");
        int end = lines(12).length();
        breaks(lines(12) + "  sold part 5;", end + 2, 3);
        breaks(lines(12) + "sold", end, 3);
        breaks(lines(12) + "mended part 101;", end, 3);
        breaks(lines(12) + "out x", end, 3);
        breaks(lines(13) + "x", end, 3);
        reads(lines(12) + "\n ", 12);
    }

    private static void mostActs() {
        Due.says(0, "ACTS of CRATES, as they are told (60 at most):");
        PortRooms x = withActs();
        x.crate(0, 500);
        for (int k = 1; k <= 60; k++) {
            Due.due("the " + k, x.act(k == 60 ? 1 : 0, 0, k, 0), k);
        }
        Due.due("the 61st", x.act(0, 0, 0, 0), FULL);
        read(x, "sold part 10;");
        Due.due("the first is kept", x.duty(0, 1), 1);
        Due.due("the 60th is kept", x.duty(1, 1), 60);
    }

    private static void actNumbers() {
        Due.says(0, "a CRATE, what (0 sold, 1 shown, 2 out, 3 mended), a day, for how many days (0 to 999).");
        Due.range("what", 0, 3, v -> withActs().act(0, v, 0, 0));
        Due.range("day", 0, 9999, v -> withActs().act(0, 0, v, 0));
        Due.range("days", 0, 999, v -> withActs().act(0, 0, 0, v));
        for (int what = 0; what < 4; what++) {
            PortRooms x = withText("mended part 4;out part 3;shown part 2;sold part 1;", what, 0, 0);
            Due.due("act " + what, x.duty(0, 2), 3 - what);
        }
        Due.due("the last day", withText("out part 1;", 2, 9999, 999).duty(0, 1), 9999);
        Due.due("the first day", withText("out part 1;", 2, 0, 0).duty(0, 1), 0);
    }

    private static void wakes() {
        Due.says(0, "An ACT WAKES a duty, if a line has it, and its days are more than told:");
        Due.due("no lines", withActs(1, 40, 20).duty(0, 1), NONE);
        Due.due("no line has it", withText("sold part 1;out part 1;mended part 1;", 1, 40, 20).duty(0, 1), NONE);
        Due.due("a line has it", withText("sold part 1;shown part 1;", 1, 40, 20).duty(0, 1), 40);
        Due.due("days less than told", withText("shown > 21 part 1;", 1, 40, 20).duty(0, 1), NONE);
        Due.due("days as told", withText("shown > 20 part 1;", 1, 40, 20).duty(0, 1), NONE);
        Due.due("days more than told", withText("shown > 19 part 1;", 1, 40, 20).duty(0, 1), 40);
    }

    private static void firstSuchLine() {
        Due.says(0, "the first such line.");
        PortRooms x = withText("sold part 90; shown > 20 part 80; shown > 19 part 7; shown part 6;", 1, 40, 20);
        Due.due("its number", x.duty(0, 2), 2);
        Due.due("its part", x.duty(0, 0), 70);
        PortRooms y = withText("shown part 6; shown > 5 part 7;", 1, 40, 20);
        Due.due("not the one that says more", y.duty(0, 0), 60);
    }

    private static void dutyByDays() {
        Due.says(0, "THE DUTY of a CRATE: of its ACTS by days, of one day as they were told, the first one that WAKES any: "
            + "that part of its worth;");
        PortRooms x = withActs(0, 50, 0, 1, 30, 0, 2, 30, 0, 3, 20, 0);
        x.crate(0, 100);
        x.act(1, 0, 1, 0);
        read(x, "sold part 1; shown part 2; out part 3;");
        Due.due("the first that wakes, of one day as told", x.duty(0, 0), 20);
        Due.due("its day", x.duty(0, 1), 30);
        read(x, "sold part 1; out part 3;");
        Due.due("another of the day", x.duty(0, 0), 30);
        Due.due("its line", x.duty(0, 2), 1);
        read(x, "sold part 1; mended part 4;");
        Due.due("an earlier day", x.duty(0, 0), 40);
        Due.due("the other crate", x.duty(1, 0), 1);
        Due.due("the other crate's day", x.duty(1, 1), 1);
        PortRooms y = withText("shown part 2; sold part 1;", 0, 5, 0, 1, 5, 0);
        Due.due("the one told first, not the first line", y.duty(0, 0), 10);
        PortRooms z = new PortRooms(0);
        z.crate(0, 999);
        z.crate(0, 100000);
        z.crate(0, 1);
        for (int c = 0; c < 3; c++) {
            z.act(c, 0, 0, 0);
        }
        read(z, "sold part 7;");
        Due.due("cut", z.duty(0, 0), 69);
        Due.due("of the most", z.duty(1, 0), 7000);
        Due.due("of the least", z.duty(2, 0), 0);
        read(z, "sold part 100;");
        Due.due("the whole of the most", z.duty(1, 0), 100000);
    }

    private static void dutyWithout() {
        Due.says(0, "0 without.");
        Due.due("without acts", withText("sold part 5;").duty(0, 0), 0);
        Due.due("without lines", withActs(0, 1, 1).duty(0, 0), 0);
        Due.due("without one that wakes", withText("sold > 1 part 5;", 0, 1, 1).duty(0, 0), 0);
    }

    private static void feed() {
        Due.says(18, "The lowest n bytes of w (1 to 8),");
        PortRooms x = new PortRooms(0);
        Due.due("one", x.feed(-1L, 1), 1);
        Due.due("eight", x.feed(0L, 8), 9);
        Due.due("byte 255 is no token", x.duties(), FAULTS);
        // The lowest bytes alone: "out part 7;" behind bytes that do not come.
        x.feed(0x6161616100000000L | 'o' << 16 | 'u' << 8 | 't', 3);
        x.feed(0x20706172742037L, 7);
        x.feed(0x5a5a5a5a5a5a5a3bL, 1);
        Due.due("as it was fed", x.duties(), 1);
        x.feed(0x8000000000000000L, 8);
        Due.due("the highest byte of eight", x.duties(), FAULTS);
        Due.range("n", 1, 8, v -> new PortRooms(0).feed(0, v));
    }

    private static void feedHighestFirst() {
        Due.says(18, "the highest of them first, come behind the tape: how many it has.");
        PortRooms x = new PortRooms(0);
        int has = 0;
        for (int n = 1; n <= 8; n++) {
            has += n;
            Due.due("behind what is there", x.feed(0x2020202020202020L, n), has);
        }
        Due.due("count", x.count(9), 36);
        x.duties();
        // "sold par" and "t 10;".
        x.feed(0x736f6c6420706172L, 8);
        Due.due("more", x.feed(0x742031303bL, 5), 13);
        Due.due("the highest first", x.duties(), 1);
    }

    private static void feedRefused() {
        Due.says(18, "BAD: n; FULL: none comes.");
        PortRooms x = new PortRooms(0);
        for (int n : new int[] {0, -1, 9, Integer.MIN_VALUE, Integer.MAX_VALUE}) {
            Due.due("n of " + n, x.feed(0, n), BAD);
        }
        feedText(x, " ".repeat(296));
        Due.due("five where four fit", x.feed(0x3b3b3b3b3bL, 5), FULL);
        Due.due("eight where four fit", x.feed(-1L, 8), FULL);
        Due.due("none came", x.count(9), 296);
        Due.due("BAD ahead of FULL", x.feed(0, 9), BAD);
        Due.due("BAD ahead of FULL, below", x.feed(0, 0), BAD);
        Due.due("just so many", x.feed(0x20202020L, 4), 300);
        Due.due("full", x.feed(32, 1), FULL);
        Due.due("what was refused is not there", x.duties(), 0);
        Due.due("again", x.feed(32, 1), 1);
    }

    private static void duties() {
        Due.says(19, "The tape, empty then, is read: how many lines.");
        PortRooms x = new PortRooms(0);
        Due.due("an empty tape", x.duties(), 0);
        feedText(x, "sold part 1; out part 2;");
        Due.due("two lines", x.duties(), 2);
        Due.due("is empty then", x.count(9), 0);
        Due.due("is read once", x.duties(), 0);
        Due.due("and had no lines", x.count(5), 0);
        feedText(x, "sold");
        x.duties();
        Due.due("is empty behind a fault, too", x.count(9), 0);
        feedText(x, "sold part 1;");
        Due.due("nothing of the fault is left", x.duties(), 1);
    }

    private static void linesStay() {
        Due.says(19, "-1000100 less the place of a FAULT: lines stay.");
        PortRooms x = withText("sold part 10; sold part 20;", 0, 5, 5);
        Due.due("a fault at the start", read(x, "x"), FAULTS);
        Due.due("a fault behind a line", read(x, "sold part 30; sold > 5 part 101;"), FAULTS - 28);
        Due.due("the duty stays", x.duty(0, 0), 100);
        Due.due("both lines", x.count(5), 2);
        Due.due("a fault at the 13th line", read(x, lines(13)), FAULTS - lines(12).length());
        Due.due("still both", x.count(5), 2);
        Due.due("still the duty", x.duty(0, 0), 100);
        feedText(x, " ".repeat(295) + "sold");
        Due.due("at the end of almost all", x.duties(), FAULTS - 299);
        feedText(x, " ".repeat(296) + "sold");
        Due.due("the farthest", x.duties(), FAULTS - 300);
    }

    private static void fault() {
        Due.says(20, "The number of the latest FAULT; 0 before one.");
        PortRooms x = new PortRooms(0);
        Due.due("before one", x.fault(), 0);
        read(x, "out part 1;");
        Due.due("before one, with a text", x.fault(), 0);
        String[] texts = {"x", "out part 101;", lines(13), "out part 1;", "", "out part 101;", "x", "out part 1;"};
        int[] want = {1, 2, 3, 3, 3, 2, 1, 1};
        for (int k = 0; k < texts.length; k++) {
            read(x, texts[k]);
            Due.due("behind text " + k, x.fault(), want[k]);
        }
    }

    private static void act() {
        Due.says(21, "An ACT: how many there are.");
        PortRooms x = withActs();
        Due.due("the first", x.act(0, 0, 9999, 999), 1);
        Due.due("one told twice is two", x.act(0, 0, 9999, 999), 2);
        Due.due("another one", x.act(0, 3, 0, 0), 3);
        Due.due("count", x.count(6), 3);
    }

    private static void actRefused() {
        Due.says(21, "BAD: CRATE, what, day, days; FULL: 60.");
        Due.due("no crate yet", new PortRooms(0).act(0, 0, 0, 0), BAD);
        Due.range("crate", 0, 0, v -> withActs().act(v, 0, 0, 0));
        Due.range("what", 0, 3, v -> withActs().act(0, v, 0, 0));
        Due.range("day", 0, 9999, v -> withActs().act(0, 0, v, 0));
        Due.range("days", 0, 999, v -> withActs().act(0, 0, 0, v));
        PortRooms x = withActs();
        for (int k = 1; k <= 60; k++) {
            Due.due("the " + k, x.act(0, 1, 5, 5), k);
        }
        Due.due("the 61st", x.act(0, 0, 0, 0), FULL);
        Due.due("BAD ahead of FULL: crate", x.act(1, 0, 0, 0), BAD);
        Due.due("BAD ahead of FULL: what", x.act(0, 4, 0, 0), BAD);
        Due.due("BAD ahead of FULL: day", x.act(0, 0, 10000, 0), BAD);
        Due.due("BAD ahead of FULL: days", x.act(0, 0, 0, 1000), BAD);
        Due.due("count", x.count(6), 60);
        read(x, "sold part 1;");
        Due.due("the 61st is not kept", x.duty(0, 1), NONE);
    }

    private static void duty() {
        Due.says(22, "THE DUTY of a CRATE (what = 0); the day of the ACT that WAKES it (1), the line (2);");
        PortRooms x = withText("sold part 9; shown part 8;", 1, 40, 20);
        Due.due("the duty", x.duty(0, 0), 80);
        Due.due("the day", x.duty(0, 1), 40);
        Due.due("the line", x.duty(0, 2), 1);
    }

    private static void dutyNone() {
        Due.says(22, "NONE (of 1, 2).");
        PortRooms x = withText("sold part 9;", 1, 40, 20);
        Due.due("the duty", x.duty(0, 0), 0);
        Due.due("no day", x.duty(0, 1), NONE);
        Due.due("no line", x.duty(0, 2), NONE);
        PortRooms y = withActs();
        Due.due("nothing told: the duty", y.duty(0, 0), 0);
        Due.due("nothing told: no day", y.duty(0, 1), NONE);
        Due.due("nothing told: no line", y.duty(0, 2), NONE);
    }

    private static void dutyRefused() {
        Due.says(22, "BAD.");
        Due.due("no crate yet", new PortRooms(0).duty(0, 0), BAD);
        Due.range("crate", 0, 0, v -> withActs().duty(v, 0));
        Due.range("what", 0, 2, v -> withActs().duty(0, v));
    }
}
