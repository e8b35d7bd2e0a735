/** Promises 6 to 11: hold, holds, percent, share, truly, rings. */
public final class OwnersTest {
    private static final int BAD = PortRooms.BAD, NONE = PortRooms.NONE, FULL = PortRooms.FULL;
    private static final int NULL = -1000011, PLACE = -1000012;
    /** Who (10: a person) has of whom (0 to 9: companies): 2788 rows of owners go from the person to company 0. */
    static final int[] MANY_ROWS = {
        1, 0, 1, 3, 1, 5, 2, 1, 2, 3, 2, 7, 2, 8, 3, 0, 3, 4, 3, 8, 3, 9, 4, 0, 4, 2, 4, 7, 4, 9, 5, 2, 5, 3, 5, 4, 5, 6,
        5, 9, 6, 1, 6, 2, 6, 4, 6, 8, 7, 1, 7, 5, 7, 6, 7, 9, 8, 0, 8, 1, 8, 4, 8, 7, 9, 0, 9, 6, 9, 8, 10, 2, 10, 4, 10, 5,
        10, 6, 10, 7};

    public static void main(String[] args) {
        hold();
        holdFull();
        holds();
        holdsFull();
        percent();
        share();
        shareCuts();
        shareOverRings();
        shareAtMost();
        truly();
        rings();
        Due.end();
    }

    private static void hold() {
        PortRooms x = new PortRooms(0);
        Due.due("P6 least", x.hold(0, 10, 0, 0), 1);
        Due.due("P6 most", x.hold(18, 19, 100, 9999), 2);
        Due.due("P6 a later company of an earlier", x.hold(19, 10, 1, 1), 3);
        Due.due("P6 owner below", x.hold(-1, 10, 1, 0), BAD);
        Due.due("P6 owner above", x.hold(20, 10, 1, 0), BAD);
        Due.due("P6 a person is no company", x.hold(0, 9, 1, 0), BAD);
        Due.due("P6 company above", x.hold(0, 20, 1, 0), BAD);
        Due.due("P6 of itself", x.hold(10, 10, 1, 0), BAD);
        Due.due("P6 percentage below", x.hold(0, 10, -1, 0), BAD);
        Due.due("P6 percentage above", x.hold(0, 10, 101, 0), BAD);
        Due.due("P6 day below", x.hold(0, 10, 1, -1), BAD);
        Due.due("P6 day above", x.hold(0, 10, 1, 10000), BAD);
        Due.due("P6 refused ones are not told", x.count(1), 3);
        Due.due("P6 status is not of hold", x.status(), 0);
    }

    private static void holdFull() {
        PortRooms x = new PortRooms(0);
        for (int k = 1; k <= 40; k++) {
            Due.due("P6 the " + k, x.hold(0, 10, k, 0), k);
        }
        Due.due("P6 the 41st", x.hold(0, 10, 99, 0), FULL);
        Due.due("P6 BAD ahead of FULL", x.hold(0, 10, 101, 0), BAD);
        Due.due("P6 the 40th counts", x.percent(0, 10, 0), 40);
    }

    private static void row(PortRooms x, int sheet, int at, int... items) {
        for (int k = 0; k < items.length; k++) {
            x.set(sheet, at + k, items[k]);
        }
    }

    private static void holds() {
        PortRooms x = new PortRooms(0);
        Due.due("P7 missing", x.holds(0, 0, 1), NULL);
        Due.due("P7 status", x.status(), 1);
        Due.due("P7 no sheet", x.holds(8, 0, 1), BAD);
        Due.due("P7 no sheet below", x.holds(-1, 0, 1), BAD);
        Due.due("P7 none", x.holds(0, 0, 0), BAD);
        Due.due("P7 too many", x.holds(0, 0, 16), BAD);
        Due.due("P7 BAD leaves status", x.status(), 1);
        x.sheet(0, 2, 60);
        row(x, 0, 1, 3, 15, 33, 7, 3, 9, 33, 7, 4, 15, 101, 0, 5, 16, 50, 9999, 16, 16, 1, 1, 6, 17, 0, 10000);
        Due.due("P7 those that are BAD are passed over", x.holds(0, 1, 6), 2);
        Due.due("P7 status", x.status(), 0);
        Due.due("P7 first", x.percent(3, 15, 7), 33);
        Due.due("P7 its day", x.percent(3, 15, 6), 0);
        Due.due("P7 fourth", x.percent(5, 16, 9999), 50);
        Due.due("P7 count", x.count(1), 2);
        Due.due("P7 beyond the end", x.holds(0, 1, 15), PLACE);
        Due.due("P7 status of a place", x.status(), 2);
        Due.due("P7 below", x.holds(0, -1, 1), PLACE);
        Due.due("P7 just to the end", x.holds(0, 56, 1), 0);
        Due.due("P7 just beyond", x.holds(0, 57, 1), PLACE);
        Due.due("P7 far beyond", x.holds(0, Integer.MAX_VALUE, 15), PLACE);
        Due.due("P7 all of it", x.holds(0, 0, 15), 0);
    }

    private static void holdsFull() {
        PortRooms x = new PortRooms(0);
        x.sheet(2, 0, 60);
        for (int k = 0; k < 15; k++) {
            row(x, 2, 4 * k, k % 10, 10, k, k);
        }
        Due.due("P7 fifteen", x.holds(2, 0, 15), 15);
        Due.due("P7 thirty", x.holds(2, 0, 15), 15);
        Due.due("P7 as many as are left", x.holds(2, 0, 15), 10);
        Due.due("P7 full", x.holds(2, 0, 15), 0);
        Due.due("P7 full is no finding", x.status(), 0);
        Due.due("P7 count", x.count(1), 40);
    }

    private static void percent() {
        PortRooms x = new PortRooms(0);
        x.hold(1, 10, 30, 20);
        x.hold(1, 10, 60, 10);
        x.hold(1, 10, 5, 15);
        x.hold(1, 10, 7, 15);
        x.hold(2, 10, 8, 15);
        x.hold(1, 11, 9, 15);
        x.hold(1, 10, 0, 30);
        int[] days = {0, 9, 10, 14, 15, 19, 20, 29, 30, 9999};
        int[] want = {0, 0, 60, 60, 7, 7, 30, 30, 0, 0};
        for (int k = 0; k < days.length; k++) {
            Due.due("P8 on day " + days[k], x.percent(1, 10, days[k]), want[k]);
        }
        Due.due("P8 an earlier day again", x.percent(1, 10, 10), 60);
        Due.due("P8 another owner", x.percent(2, 10, 15), 8);
        Due.due("P8 another company", x.percent(1, 11, 15), 9);
        Due.due("P8 a company's", x.percent(11, 10, 15), 0);
        Due.due("P8 one company twice", x.percent(10, 10, 15), BAD);
        Due.due("P8 of a person", x.percent(1, 9, 15), BAD);
        Due.due("P8 no company", x.percent(1, 20, 15), BAD);
        Due.due("P8 no owner", x.percent(20, 10, 15), BAD);
        Due.due("P8 no owner below", x.percent(-1, 10, 15), BAD);
        Due.due("P8 no day", x.percent(1, 10, 10000), BAD);
        Due.due("P8 no day below", x.percent(1, 10, -1), BAD);
    }

    private static void share() {
        PortRooms x = new PortRooms(0);
        x.hold(0, 10, 50, 5);
        x.hold(0, 11, 20, 5);
        x.hold(10, 11, 40, 6);
        Due.due("P9 in itself", x.share(3, 3, 0), 1000000);
        Due.due("P9 in another person", x.share(3, 4, 0), 0);
        Due.due("P9 before", x.share(0, 11, 4), 0);
        Due.due("P9 straight", x.share(0, 11, 5), 200000);
        Due.due("P9 both ways", x.share(0, 11, 6), 400000);
        Due.due("P9 not upward", x.share(0, 10, 6), 500000);
        Due.due("P9 of none", x.share(1, 11, 6), 0);
        Due.due("P9 a company is no person", x.share(10, 11, 6), BAD);
        Due.due("P9 person below", x.share(-1, 11, 6), BAD);
        Due.due("P9 owner above", x.share(0, 20, 6), BAD);
        Due.due("P9 owner below", x.share(0, -1, 6), BAD);
        Due.due("P9 day above", x.share(0, 11, 10000), BAD);
        Due.due("P9 day below", x.share(0, 11, -1), BAD);
        x.hold(10, 11, 0, 7);
        Due.due("P9 a way with 0 is none", x.share(0, 11, 7), 200000);
    }

    /** 1000000 goes by 33, 33, 33, 33 to 330000, 108900, 35937, 11859.21: cut at each step and from the person on. */
    private static void shareCuts() {
        PortRooms x = new PortRooms(0);
        for (int k = 0; k < 5; k++) {
            x.hold(k == 0 ? 9 : 9 + k, 10 + k, 33, 0);
        }
        int[] want = {330000, 108900, 35937, 11859, 3913};
        for (int k = 0; k < 5; k++) {
            Due.due("P9 cut " + k, x.share(9, 10 + k, 0), want[k]);
        }
        PortRooms y = new PortRooms(0);
        y.hold(0, 10, 1, 0);
        y.hold(10, 11, 1, 0);
        y.hold(11, 12, 1, 0);
        y.hold(12, 13, 99, 0);
        y.hold(12, 14, 99, 0);
        y.hold(13, 15, 100, 0);
        y.hold(14, 15, 100, 0);
        Due.due("P9 1 is left", y.share(0, 12, 0), 1);
        Due.due("P9 99 of 1 are cut to none", y.share(0, 13, 0), 0);
        Due.due("P9 cut each time, not at the end", y.share(0, 15, 0), 0);
        y.hold(12, 16, 100, 0);
        Due.due("P9 1 goes on whole", y.share(0, 16, 0), 1);
    }

    private static void shareOverRings() {
        PortRooms x = new PortRooms(0);
        x.hold(0, 10, 50, 0);
        x.hold(10, 11, 50, 0);
        x.hold(11, 10, 50, 0);
        Due.due("P9 none twice", x.share(0, 10, 0), 500000);
        Due.due("P9 along the ring", x.share(0, 11, 0), 250000);
        x.hold(0, 11, 50, 0);
        Due.due("P9 both entries", x.share(0, 10, 0), 750000);
        Due.due("P9 both entries, the other", x.share(0, 11, 0), 750000);
    }

    private static void shareAtMost() {
        PortRooms x = new PortRooms(0);
        for (int a = 10; a < 16; a++) {
            x.hold(0, a, 100, 0);
            for (int b = 10; b < 16; b++) {
                x.hold(a, b, 100, 0);
            }
        }
        // Rows among six that end in one: 1 + 5 + 20 + 60 + 120 + 120.
        Due.due("P9 all rows", x.share(0, 12, 0), 326000000);
        Due.due("P9 every company has every other", x.count(1), 36);
        PortRooms y = new PortRooms(0);
        for (int k = 0; k < MANY_ROWS.length; k += 2) {
            y.hold(MANY_ROWS[k] == 10 ? 0 : 10 + MANY_ROWS[k], 10 + MANY_ROWS[k + 1], 100, 0);
        }
        Due.due("P9 forty are told", y.count(1), 40);
        Due.due("P9 2788 rows are cut to 2000000000", y.share(0, 10, 0), 2000000000);
        y = new PortRooms(0);
        for (int k = 0; k < MANY_ROWS.length; k += 2) {
            y.hold(MANY_ROWS[k] == 10 ? 0 : 10 + MANY_ROWS[k], 10 + MANY_ROWS[k + 1], MANY_ROWS[k] == 10 ? 50 : 100, 0);
        }
        Due.due("P9 2788 rows, half each", y.share(0, 10, 0), 1394000000);
    }

    private static void truly() {
        PortRooms x = new PortRooms(0);
        Due.due("P10 a person", x.truly(6, 0), 6);
        Due.due("P10 nobody", x.truly(10, 0), NONE);
        x.hold(5, 10, 40, 1);
        x.hold(4, 10, 40, 2);
        x.hold(3, 10, 39, 2);
        Due.due("P10 one", x.truly(10, 1), 5);
        Due.due("P10 of several the least", x.truly(10, 2), 4);
        x.hold(11, 10, 100, 3);
        x.hold(9, 11, 41, 3);
        Due.due("P10 by a chain", x.truly(10, 3), 9);
        x.hold(11, 12, 100, 3);
        x.hold(13, 14, 100, 0);
        Due.due("P10 a chain from nobody", x.truly(14, 3), NONE);
        Due.due("P10 no owner", x.truly(20, 0), BAD);
        Due.due("P10 no owner below", x.truly(-1, 0), BAD);
        Due.due("P10 no day", x.truly(0, 10000), BAD);
        Due.due("P10 no day below", x.truly(0, -1), BAD);
        x.hold(9, 15, 1, 0);
        x.hold(15, 16, 1, 0);
        x.hold(16, 17, 1, 0);
        x.hold(17, 18, 1, 0);
        Due.due("P10 the least that is any", x.truly(17, 0), 9);
        Due.due("P10 cut to nothing is none", x.truly(18, 0), NONE);
        PortRooms y = new PortRooms(0);
        y.hold(10, 11, 100, 0);
        Due.due("P10 a company is no true owner", y.truly(11, 0), NONE);
    }

    private static void rings() {
        PortRooms x = new PortRooms(0);
        Due.due("P11 none", x.rings(0), 0);
        x.hold(10, 11, 1, 0);
        x.hold(11, 12, 1, 0);
        x.hold(12, 13, 1, 0);
        Due.due("P11 a chain is none", x.rings(0), 0);
        x.hold(12, 10, 1, 5);
        Due.due("P11 before", x.rings(4), 0);
        Due.due("P11 three", x.rings(5), 7);
        x.hold(19, 18, 100, 5);
        x.hold(18, 19, 100, 6);
        x.hold(13, 18, 50, 0);
        Due.due("P11 between rings is none", x.rings(6), 7 | 256 | 512);
        x.hold(19, 12, 3, 7);
        Due.due("P11 now it is", x.rings(7), 7 | 8 | 256 | 512);
        x.hold(11, 12, 0, 8);
        Due.due("P11 0 is no holding", x.rings(8), 4 | 8 | 256 | 512);
        x.hold(0, 10, 100, 0);
        Due.due("P11 people are in none", x.rings(4), 0);
        Due.due("P11 no day", x.rings(10000), BAD);
        Due.due("P11 no day below", x.rings(-1), BAD);
        PortRooms y = new PortRooms(0);
        for (int k = 0; k < 10; k++) {
            y.hold(10 + (k * 3 + 3) % 10, 10 + k * 3 % 10, 1, 9999);
        }
        Due.due("P11 all in one", y.rings(9999), 1023);
        Due.due("P11 not yet", y.rings(9998), 0);
    }
}
