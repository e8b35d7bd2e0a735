/** Promises 26 to 32: lot, drawn, often, opened, verdict, list, barred. */
public final class LooksTest {
    private static final int BAD = PortRooms.BAD, NONE = PortRooms.NONE, FULL = PortRooms.FULL;

    public static void main(String[] args) {
        lot();
        drawn();
        often();
        opened();
        verdict();
        verdictByDays();
        list();
        barred();
        barredTogether();
        barredByPapers();
        barredByVeryMuch();
        Due.end();
    }

    private static void lot() {
        PortRooms x = new PortRooms(1);
        Due.due("P26 lot", x.lot(0, 0, 1000000), 685753);
        Due.due("P26 the crate need not be there", x.lot(11, 9999, 7), 4);
        Due.due("P26 modulo 1", x.lot(3, 3, 1), 0);
        Due.due("P26 crate", x.lot(12, 0, 1), BAD);
        Due.due("P26 crate below", x.lot(-1, 0, 1), BAD);
        Due.due("P26 day", x.lot(0, 10000, 1), BAD);
        Due.due("P26 day below", x.lot(0, -1, 1), BAD);
        Due.due("P26 n", x.lot(0, 0, 0), BAD);
        Due.due("P26 n above", x.lot(0, 0, 1000001), BAD);
        for (int seed : new int[] {Integer.MIN_VALUE, -9, 0, Integer.MAX_VALUE}) {
            for (int c = 0; c < 12; c++) {
                Due.due("P26 seed " + seed, new PortRooms(seed).lot(c, 77 * c, 999983), PlainPort.lotOf(seed, c, 77 * c).mod(java.math.BigInteger.valueOf(999983)).longValue());
            }
        }
    }

    private static PortRooms stored(int seed, int... crates) {
        PortRooms x = new PortRooms(seed);
        for (int k = 0; k < 12; k++) {
            x.crate(0, 1);
        }
        for (int k = 0; k < 6; k++) {
            x.room(k, 0, 12);
        }
        for (int c : crates) {
            x.move(c, c % 6);
        }
        return x;
    }

    private static void drawn() {
        PortRooms x = stored(-9, 0, 2, 3, 4, 6);
        Due.due("P27 none", x.drawn(0, 0), 0);
        Due.due("P27 two", x.drawn(0, 2), 65);
        Due.due("P27 two of another day", x.drawn(1, 2), 20);
        Due.due("P27 more than there are", x.drawn(1, 12), 93);
        Due.due("P27 just all", x.drawn(9999, 5), 93);
        Due.due("P27 all but one", Integer.bitCount(x.drawn(9999, 4)), 4);
        Due.due("P27 day", x.drawn(10000, 1), BAD);
        Due.due("P27 day below", x.drawn(-1, 1), BAD);
        Due.due("P27 m", x.drawn(0, 13), BAD);
        Due.due("P27 m below", x.drawn(0, -1), BAD);
        x.move(6, NONE);
        Due.due("P27 crates in rooms alone", x.drawn(0, 12), 29);
        Due.due("P27 nobody stored", new PortRooms(0).drawn(0, 12), 0);
        Due.due("P27 the last of twelve", stored(0, 11).drawn(5, 1), 2048);
    }

    private static void often() {
        PortRooms x = stored(-9, 0, 2, 3, 4, 6);
        Due.due("P28 of 51 days", x.often(0, 0, 50, 2), 19);
        Due.due("P28 of 400 days", x.often(0, 0, 399, 1), 79);
        Due.due("P28 in no room", x.often(1, 0, 50, 12), 0);
        Due.due("P28 none each", x.often(0, 0, 50, 0), 0);
        Due.due("P28 all each", x.often(0, 9600, 9999, 5), 400);
        Due.due("P28 one day", x.often(6, 0, 0, 2), 1);
        Due.due("P28 401 days", x.often(0, 0, 400, 1), BAD);
        Due.due("P28 to below from", x.often(0, 5, 4, 1), BAD);
        Due.due("P28 crate", x.often(12, 0, 0, 1), BAD);
        Due.due("P28 crate below", x.often(-1, 0, 0, 1), BAD);
        Due.due("P28 from below", x.often(0, -1, 0, 1), BAD);
        Due.due("P28 to above", x.often(0, 9999, 10000, 1), BAD);
        Due.due("P28 m", x.often(0, 0, 0, 13), BAD);
        Due.due("P28 m below", x.often(0, 0, 0, -1), BAD);
        Due.due("P28 no crate, though it is below 12", new PortRooms(0).often(0, 0, 0, 1), BAD);
        x.move(0, NONE);
        Due.due("P28 as all is now", x.often(0, 0, 50, 2), 0);
    }

    private static void opened() {
        PortRooms x = new PortRooms(0);
        Due.due("P29 no crate yet", x.opened(0, 0, 1, 0), BAD);
        x.crate(0, 1);
        Due.due("P29 crate below", x.opened(-1, 0, 1, 0), BAD);
        Due.due("P29 day", x.opened(0, 10000, 1, 0), BAD);
        Due.due("P29 day below", x.opened(0, -1, 1, 0), BAD);
        Due.due("P29 weight", x.opened(0, 0, 0, 0), BAD);
        Due.due("P29 weight above", x.opened(0, 0, 100001, 0), BAD);
        Due.due("P29 marks", x.opened(0, 0, 1, 256), BAD);
        Due.due("P29 marks below", x.opened(0, 0, 1, -1), BAD);
        for (int k = 1; k <= 60; k++) {
            Due.due("P29 the " + k, x.opened(0, 9999, 100000, 255), k);
        }
        Due.due("P29 the 61st", x.opened(0, 0, 1, 0), FULL);
        Due.due("P29 BAD ahead of FULL", x.opened(1, 0, 1, 0), BAD);
        Due.due("P29 count", x.count(7), 60);
        Due.due("P30 all the same", x.verdict(0), 0);
    }

    private static int verdictOf(int weight, int marks, int laterWeight, int laterMarks) {
        PortRooms x = new PortRooms(0);
        x.crate(0, 1);
        x.opened(0, 5, weight, marks);
        x.opened(0, 6, laterWeight, laterMarks);
        return x.verdict(0);
    }

    private static void verdict() {
        Due.due("P30 like", verdictOf(500, 7, 500, 7), 0);
        Due.due("P30 10 more, a mark more", verdictOf(500, 7, 510, 15), 0);
        Due.due("P30 10 less", verdictOf(500, 7, 490, 255), 0);
        Due.due("P30 11 more", verdictOf(500, 7, 511, 7), 1);
        Due.due("P30 11 less", verdictOf(500, 7, 489, 7), 1);
        Due.due("P30 100 more", verdictOf(500, 7, 600, 7), 1);
        Due.due("P30 100 less, a mark missing", verdictOf(500, 7, 400, 3), 1);
        Due.due("P30 101 more", verdictOf(500, 7, 601, 7), 2);
        Due.due("P30 101 less", verdictOf(500, 7, 399, 7), 2);
        Due.due("P30 a mark missing", verdictOf(500, 7, 500, 6), 1);
        Due.due("P30 a mark missing, more others", verdictOf(500, 7, 500, 254), 1);
        Due.due("P30 two marks missing", verdictOf(500, 7, 500, 4), 2);
        Due.due("P30 all marks missing", verdictOf(500, 255, 500, 0), 2);
        Due.due("P30 no marks at first", verdictOf(500, 0, 500, 255), 0);
        PortRooms x = new PortRooms(0);
        Due.due("P30 no crate", x.verdict(0), BAD);
        x.crate(0, 1);
        Due.due("P30 never opened", x.verdict(0), 0);
        Due.due("P30 crate below", x.verdict(-1), BAD);
        x.opened(0, 0, 1, 0);
        Due.due("P30 opened once", x.verdict(0), 0);
    }

    private static void verdictByDays() {
        PortRooms x = new PortRooms(0);
        x.crate(0, 1);
        x.crate(0, 1);
        x.opened(0, 20, 1000, 3);
        x.opened(1, 1, 5000, 128);
        x.opened(0, 20, 1020, 3);
        Due.due("P30 doubt", x.verdict(0), 1);
        x.opened(0, 30, 1200, 3);
        Due.due("P30 swapped ahead of doubt", x.verdict(0), 2);
        x.opened(0, 10, 1100, 3);
        Due.due("P30 by the first day", x.verdict(0), 1);
        x.opened(0, 10, 9999, 3);
        Due.due("P30 of one day as told", x.verdict(0), 2);
        Due.due("P30 another crate", x.verdict(1), 0);
        PortRooms y = new PortRooms(0);
        y.crate(0, 1);
        y.opened(0, 10, 1000, 3);
        y.opened(0, 10, 1100, 3);
        y.opened(0, 11, 1110, 3);
        Due.due("P30 by the one told first", y.verdict(0), 2);
        y.opened(0, 9, 1060, 0);
        Due.due("P30 by an earlier one", y.verdict(0), 1);
    }

    private static void list() {
        PortRooms x = new PortRooms(0);
        Due.due("P31 person", x.list(10, 0, 0), BAD);
        Due.due("P31 person below", x.list(-1, 0, 0), BAD);
        Due.due("P31 from below", x.list(0, -1, 0), BAD);
        Due.due("P31 to above", x.list(0, 0, 10000), BAD);
        Due.due("P31 to below from", x.list(0, 5, 4), BAD);
        for (int k = 1; k <= 20; k++) {
            Due.due("P31 the " + k, x.list(9, k == 1 ? 0 : k, k == 1 ? 9999 : k), k);
        }
        Due.due("P31 the 21st", x.list(0, 0, 0), FULL);
        Due.due("P31 BAD ahead of FULL", x.list(10, 0, 0), BAD);
        Due.due("P31 count", x.count(8), 20);
    }

    private static void barred() {
        PortRooms x = new PortRooms(0);
        Due.due("P32 no crate", x.barred(0, 0), BAD);
        x.crate(3, 1);
        x.crate(10, 1);
        x.crate(11, 1);
        x.hold(3, 10, 50, 0);
        x.hold(3, 11, 49, 0);
        Due.due("P32 nobody listed", x.barred(0, 10), 0);
        x.list(3, 10, 12);
        int[] days = {9, 10, 11, 12, 13};
        for (int d : days) {
            Due.due("P32 an owner, day " + d, x.barred(0, d), d > 9 && d < 13 ? 1 : 0);
            Due.due("P32 half, day " + d, x.barred(1, d), d > 9 && d < 13 ? 1 : 0);
            Due.due("P32 less than half, day " + d, x.barred(2, d), 0);
        }
        x.hold(3, 10, 49, 11);
        Due.due("P32 the share of that day", x.barred(1, 10), 1);
        Due.due("P32 less from now on", x.barred(1, 11), 0);
        Due.due("P32 crate below", x.barred(-1, 0), BAD);
        Due.due("P32 no such crate", x.barred(3, 0), BAD);
        Due.due("P32 day", x.barred(0, 10000), BAD);
        Due.due("P32 day below", x.barred(0, -1), BAD);
    }

    private static void barredTogether() {
        PortRooms x = new PortRooms(0);
        x.crate(10, 1);
        x.hold(1, 10, 25, 0);
        x.hold(2, 10, 24, 0);
        x.hold(3, 10, 25, 0);
        x.list(1, 5, 5);
        x.list(1, 0, 9);
        Due.due("P32 one told twice is one", x.barred(0, 5), 0);
        x.list(2, 5, 5);
        Due.due("P32 two with 49", x.barred(0, 5), 0);
        x.list(3, 6, 6);
        Due.due("P32 the third another day", x.barred(0, 5), 0);
        Due.due("P32 two with 50", x.barred(0, 6), 1);
        PortRooms y = new PortRooms(0);
        y.crate(10, 1);
        int[] told = {0, 10, 49, 2, 11, 99, 11, 10, 1, 3, 12, 99, 12, 13, 1, 13, 10, 1, 4, 14, 1, 14, 15, 1, 15, 10, 1};
        for (int k = 0; k < told.length; k += 3) {
            y.hold(told[k], told[k + 1], told[k + 2], 0);
        }
        y.list(0, 0, 9);
        y.list(2, 0, 9);
        y.list(3, 0, 9);
        Due.due("P32 499999 together", y.barred(0, 5), 0);
        y.list(4, 0, 9);
        Due.due("P32 500000 together", y.barred(0, 5), 1);
    }

    private static void barredByPapers() {
        PortRooms x = new PortRooms(0);
        x.crate(0, 1);
        x.list(1, 0, 9999);
        x.paper(0, 0, 1, 10, 20);
        x.paper(0, 1, 2, 30, 30);
        Due.due("P32 not his yet", x.barred(0, 9), 0);
        Due.due("P32 not known that day", x.barred(0, 19), 0);
        Due.due("P32 known", x.barred(0, 20), 1);
        Due.due("P32 until he sold", x.barred(0, 29), 1);
        Due.due("P32 he sold", x.barred(0, 30), 0);
        PortRooms y = new PortRooms(0);
        y.crate(0, 1);
        y.list(0, 3, 3);
        Due.due("P32 the least person alone", y.barred(0, 3), 1);
    }

    /** Shares together go beyond what an int holds. */
    private static void barredByVeryMuch() {
        PortRooms x = new PortRooms(0);
        x.crate(10, 1);
        int person = 0;
        int[] rows = OwnersTest.MANY_ROWS;
        for (int k = 0; k < rows.length; k += 2) {
            x.hold(rows[k] == 10 ? person++ : 10 + rows[k], 10 + rows[k + 1], 100, 0);
        }
        for (int k = 0; k < 10; k++) {
            x.list(k, 0, 0);
        }
        Due.due("P32 very much", x.barred(0, 0), 1);
    }
}
