import java.math.BigInteger;

/** Promises 26 to 32, and what the terms say of looks and lists: lot, drawn, often, opened, verdict, list, barred. */
public final class LooksTest {
    private static final int BAD = PortRooms.BAD, NONE = PortRooms.NONE, FULL = PortRooms.FULL;
    private static final int SAME = 0, DOUBT = 1, SWAPPED = 2;

    public static void main(String[] args) {
        lotStarts();
        lotMixes();
        lotHasNoSign();
        leastLots();
        mostOpened();
        openedNumbers();
        byTheFirstOne();
        same();
        swapped();
        doubt();
        verdictOfAll();
        mostLists();
        daysOfLists();
        barredByOne();
        barredByAll();
        barredByPapers();
        lot();
        lotRefused();
        drawn();
        drawnRefused();
        often();
        oftenAsAllIsNow();
        oftenRefused();
        opened();
        openedRefused();
        verdict();
        verdictRefused();
        list();
        listRefused();
        barred();
        barredRefused();
        Due.end();
    }

    private static void lotStarts() {
        Due.says(0, "LOOKS: LOT of a CRATE c on a day: z (64 bits) is SEED plus c times 1000003, plus the day times 8191;");
        Due.due("all 0", new PortRooms(0).lot(0, 0, 1000000), 0);
        Due.due("a seed below 0 takes the crate away", new PortRooms(-1000003).lot(1, 0, 1000000), 0);
        Due.due("a seed below 0 takes the day away", new PortRooms(-8191).lot(0, 1, 1000000), 0);
        Due.due("the crate is as much seed", new PortRooms(5).lot(11, 3, 999983),
            new PortRooms(5 + 11 * 1000003).lot(0, 3, 999983));
        Due.due("the day is as much seed", new PortRooms(5).lot(2, 9999, 999983),
            new PortRooms(5 + 9999 * 8191).lot(2, 0, 999983));
        Due.due("beyond what an int holds", new PortRooms(Integer.MAX_VALUE).lot(11, 9999, 1000000), 601997);
        Due.due("the least seed", new PortRooms(Integer.MIN_VALUE).lot(0, 0, 1000000), 6387);
    }

    private static void lotMixes() {
        Due.says(0, "z times -7046029254386353131, z with its bits shifted right by 29 (unsigned) by exclusive or; "
            + "z times -4658895280553007687, likewise by 32;");
        Due.due("seed 1", new PortRooms(1).lot(0, 0, 1000000), 685753);
        Due.due("seed -1", new PortRooms(-1).lot(0, 0, 1000000), 404587);
        Due.due("seed 7", new PortRooms(7).lot(11, 9999, 1000000), 965503);
        for (int seed : new int[] {Integer.MIN_VALUE, -9, 0, 3, Integer.MAX_VALUE}) {
            for (int c = 0; c < 12; c++) {
                BigInteger want = PlainPort.lotOf(seed, c, 77 * c).mod(BigInteger.valueOf(999983));
                Due.due("seed " + seed, new PortRooms(seed).lot(c, 77 * c, 999983), want.longValue());
            }
        }
    }

    /** Of seed 3 on day 0 crate 0 has 0xeab1569b9465d5e7, crate 1 has 0x0531b3e95d97708d. */
    private static void lotHasNoSign() {
        Due.says(0, "z without its sign bit.");
        PortRooms x = new PortRooms(3);
        Due.due("a sign bit is left out", x.lot(0, 0, 1000000), 0x6ab1569b9465d5e7L % 1000000);
        Due.due("none is there", x.lot(1, 0, 1000000), 0x0531b3e95d97708dL % 1000000);
        for (int seed = -50; seed < 50; seed++) {
            int lot = new PortRooms(seed).lot(5, 5, 1000000);
            Due.due("never below 0", lot >= 0 && lot < 1000000 ? 1 : 0, 1);
        }
    }

    private static PortRooms stored(int seed, int... crates) {
        PortRooms x = new PortRooms(seed);
        for (int k = 0; k < 12; k++) {
            x.crate(0, 1);
        }
        for (int k = 0; k < 6; k++) {
            x.room(k, 0, 12);
        }
        for (int c : crates) {
            x.move(c, c % 6);
        }
        return x;
    }

    private static PortRooms allStored(int seed) {
        return stored(seed, 0, 1, 2, 3, 4, 5, 6, 7, 8, 9, 10, 11);
    }

    /** No seed and day give two crates like lots (all were tried), so what is due of these is not seen. */
    private static void leastLots() {
        Due.says(0, "DRAWN on a day: of CRATES in ROOMS those with the least LOTS, as many as told "
            + "(of like LOTS the least CRATE).");
        PortRooms x = allStored(-9);
        int[] want = {0, 512, 513, 2561, 2817, 2945, 3969, 4001, 4065, 4067, 4071, 4087, 4095};
        for (int m = 0; m <= 12; m++) {
            Due.due(m + " of twelve", x.drawn(0, m), want[m]);
        }
        PortRooms y = stored(3, 0, 1);
        Due.due("by lots without their sign", y.drawn(0, 1), 2);
        PortRooms z = stored(3, 1, 2);
        Due.due("by whole lots", z.drawn(0, 1), 2);
        Due.due("in rooms alone", stored(-9, 0, 11).drawn(0, 12), 2049);
        Due.due("none in rooms", stored(-9).drawn(0, 12), 0);
    }

    private static PortRooms withCrate() {
        PortRooms x = new PortRooms(0);
        x.crate(0, 1);
        return x;
    }

    private static void mostOpened() {
        Due.says(0, "OPENED, as they are told (60 at most):");
        PortRooms x = withCrate();
        x.crate(0, 1);
        for (int k = 1; k <= 60; k++) {
            Due.due("the " + k, x.opened(k < 59 ? 0 : 1, 9, k == 60 ? 500 : 1, 0), k);
        }
        Due.due("the 61st", x.opened(0, 9, 9999, 0), FULL);
        Due.due("the 60th is kept", x.verdict(1), SWAPPED);
        Due.due("the 61st is not", x.verdict(0), SAME);
    }

    private static void openedNumbers() {
        Due.says(0, "a CRATE, a day, a weight (1 to 100000), marks (bits 0 to 255).");
        Due.range("day", 0, 9999, v -> withCrate().opened(0, v, 1, 0));
        Due.range("weight", 1, 100000, v -> withCrate().opened(0, 0, v, 0));
        Due.range("marks", 0, 255, v -> withCrate().opened(0, 0, 1, v));
        Due.due("the least and the most weight", verdictOf(1, 0, 100000, 0), SWAPPED);
        Due.due("the most and the least weight", verdictOf(100000, 255, 1, 255), SWAPPED);
    }

    private static int verdictOf(int weight, int marks, int laterWeight, int laterMarks) {
        PortRooms x = withCrate();
        x.opened(0, 5, weight, marks);
        x.opened(0, 6, laterWeight, laterMarks);
        return x.verdict(0);
    }

    private static void byTheFirstOne() {
        Due.says(0, "By the first one of a CRATE (by days, of one day as told):");
        PortRooms x = withCrate();
        x.crate(0, 1);
        x.opened(0, 20, 1000, 3);
        x.opened(1, 1, 5000, 128);
        x.opened(0, 20, 1020, 3);
        Due.due("of one day", x.verdict(0), DOUBT);
        x.opened(0, 30, 1200, 3);
        Due.due("a later day", x.verdict(0), SWAPPED);
        x.opened(0, 10, 1100, 3);
        Due.due("an earlier one, told later, is the first", x.verdict(0), DOUBT);
        x.opened(0, 10, 9999, 3);
        Due.due("of one day the one told first", x.verdict(0), SWAPPED);
        Due.due("another crate has its own", x.verdict(1), SAME);
        PortRooms y = withCrate();
        y.opened(0, 10, 1000, 3);
        y.opened(0, 10, 1100, 3);
        y.opened(0, 11, 1110, 3);
        Due.due("by the one told first", y.verdict(0), SWAPPED);
        y.opened(0, 0, 1060, 0);
        Due.due("by one of day 0", y.verdict(0), DOUBT);
        PortRooms z = withCrate();
        z.crate(0, 1);
        z.opened(0, 8, 900, 0);
        z.opened(0, 7, 500, 0);
        z.opened(1, 9, 500, 0);
        z.opened(1, 9, 500, 0);
        Due.due("the one told first may be a later one", z.verdict(0), SWAPPED);
        Due.due("an earlier one of another crate is not meant", z.verdict(1), SAME);
    }

    private static void same() {
        Due.says(0, "a later one is SAME, if the weight is 10 or less from that, and no mark of that is missing;");
        Due.due("like", verdictOf(500, 7, 500, 7), SAME);
        Due.due("10 more", verdictOf(500, 7, 510, 7), SAME);
        Due.due("10 less", verdictOf(500, 7, 490, 7), SAME);
        Due.due("11 more", verdictOf(500, 7, 511, 7), DOUBT);
        Due.due("11 less", verdictOf(500, 7, 489, 7), DOUBT);
        Due.due("marks more", verdictOf(500, 7, 500, 255), SAME);
        Due.due("no marks at first", verdictOf(500, 0, 500, 255), SAME);
        Due.due("no marks at all", verdictOf(500, 0, 500, 0), SAME);
        for (int bit = 0; bit < 8; bit++) {
            Due.due("mark " + bit + " is missing", verdictOf(500, 255, 500, 255 & ~(1 << bit)), DOUBT);
        }
    }

    private static void swapped() {
        Due.says(0, "SWAPPED, if it is more than 100 away, or 2 marks or more are missing;");
        Due.due("100 more", verdictOf(500, 7, 600, 7), DOUBT);
        Due.due("101 more", verdictOf(500, 7, 601, 7), SWAPPED);
        Due.due("100 less", verdictOf(500, 7, 400, 7), DOUBT);
        Due.due("101 less", verdictOf(500, 7, 399, 7), SWAPPED);
        Due.due("1 mark is missing", verdictOf(500, 7, 500, 3), DOUBT);
        Due.due("2 marks are missing", verdictOf(500, 7, 500, 1), SWAPPED);
        Due.due("the first and the last are missing", verdictOf(500, 129, 500, 126), SWAPPED);
        Due.due("all are missing", verdictOf(500, 255, 500, 0), SWAPPED);
        Due.due("both", verdictOf(500, 255, 900, 0), SWAPPED);
    }

    private static void doubt() {
        Due.says(0, "else in DOUBT.");
        Due.due("11 away", verdictOf(500, 7, 511, 255), DOUBT);
        Due.due("100 away, 1 mark is missing", verdictOf(500, 7, 400, 3), DOUBT);
        Due.due("1 mark is missing, others more", verdictOf(500, 7, 500, 254), DOUBT);
        Due.due("a single mark is missing", verdictOf(500, 128, 500, 0), DOUBT);
    }

    private static void verdictOfAll() {
        Due.says(0, "VERDICT of a CRATE: SWAPPED (2), if some later one is, else DOUBT (1), if some is, else SAME (0).");
        int[][] weights = {
            {500, 510, 490}, {500, 510, 520}, {500, 520, 510}, {500, 520, 700}, {500, 700, 520}, {500, 700, 500}};
        int[] want = {SAME, DOUBT, DOUBT, SWAPPED, SWAPPED, SWAPPED};
        for (int k = 0; k < want.length; k++) {
            PortRooms x = withCrate();
            for (int day = 0; day < 3; day++) {
                x.opened(0, day, weights[k][day], 0);
            }
            Due.due("verdict " + k, x.verdict(0), want[k]);
        }
        PortRooms y = withCrate();
        y.opened(0, 0, 500, 0);
        y.opened(0, 1, 595, 0);
        y.opened(0, 2, 405, 0);
        Due.due("each by the first one alone", y.verdict(0), DOUBT);
    }

    private static void mostLists() {
        Due.says(0, "LISTS, as they are told (20 at most):");
        PortRooms x = withCrate();
        for (int k = 1; k <= 20; k++) {
            Due.due("the " + k, x.list(k == 20 ? 0 : 9, k, k), k);
        }
        Due.due("the 21st", x.list(0, 50, 50), FULL);
        Due.due("the 20th is kept", x.barred(0, 20), 1);
        Due.due("the 21st is not", x.barred(0, 50), 0);
    }

    private static void daysOfLists() {
        Due.says(0, "a person from a day to another one (among them).");
        PortRooms x = withCrate();
        x.list(0, 10, 12);
        x.list(0, 20, 20);
        x.list(0, 9999, 9999);
        int[] days = {0, 9, 10, 11, 12, 13, 19, 20, 21, 9998, 9999};
        int[] want = {0, 0, 1, 1, 1, 0, 0, 1, 0, 0, 1};
        for (int k = 0; k < days.length; k++) {
            Due.due("day " + days[k], x.barred(0, days[k]), want[k]);
        }
        x.list(0, 0, 0);
        Due.due("the first day", x.barred(0, 0), 1);
    }

    private static void barredByOne() {
        Due.says(0, "A CRATE is BARRED on a day, if of those on a LIST that day some one has a SHARE of 500000 or more "
            + "in its OWNER that day");
        PortRooms x = new PortRooms(0);
        x.crate(3, 1);
        x.crate(10, 1);
        x.crate(11, 1);
        x.hold(3, 10, 50, 0);
        x.hold(3, 11, 49, 0);
        Due.due("nobody is listed", x.barred(0, 10), 0);
        x.list(3, 10, 12);
        for (int d = 9; d <= 13; d++) {
            Due.due("an owner, day " + d, x.barred(0, d), d > 9 && d < 13 ? 1 : 0);
            Due.due("500000, day " + d, x.barred(1, d), d > 9 && d < 13 ? 1 : 0);
            Due.due("490000, day " + d, x.barred(2, d), 0);
        }
        x.hold(3, 10, 49, 11);
        Due.due("the share of that day", x.barred(1, 10), 1);
        Due.due("less from now on", x.barred(1, 11), 0);
        x.list(4, 0, 9999);
        Due.due("another one has none", x.barred(0, 9), 0);
    }

    private static void barredByAll() {
        Due.says(0, "or all of them together.");
        PortRooms x = new PortRooms(0);
        x.crate(10, 1);
        x.hold(1, 10, 25, 0);
        x.hold(2, 10, 24, 0);
        x.hold(3, 10, 25, 0);
        x.list(1, 5, 5);
        x.list(1, 0, 9);
        Due.due("one told twice is one", x.barred(0, 5), 0);
        x.list(2, 5, 5);
        Due.due("two with 490000", x.barred(0, 5), 0);
        x.list(3, 6, 6);
        Due.due("the third another day", x.barred(0, 5), 0);
        Due.due("two with 500000", x.barred(0, 6), 1);
        PortRooms y = new PortRooms(0);
        y.crate(10, 1);
        int[] told = {0, 10, 49, 2, 11, 99, 11, 10, 1, 3, 12, 99, 12, 13, 1, 13, 10, 1, 4, 14, 1, 14, 15, 1, 15, 10, 1};
        for (int k = 0; k < told.length; k += 3) {
            y.hold(told[k], told[k + 1], told[k + 2], 0);
        }
        y.list(0, 0, 9);
        y.list(2, 0, 9);
        y.list(3, 0, 9);
        Due.due("499999 together", y.barred(0, 5), 0);
        y.list(4, 0, 9);
        Due.due("500000 together", y.barred(0, 5), 1);
        barredByVeryMuch();
    }

    /** Shares together go beyond what an int holds. */
    private static void barredByVeryMuch() {
        PortRooms x = new PortRooms(0);
        x.crate(10, 1);
        int person = 0;
        int[] rows = OwnersTest.MANY_ROWS;
        for (int k = 0; k < rows.length; k += 2) {
            x.hold(rows[k] == 10 ? person++ : 10 + rows[k], 10 + rows[k + 1], 100, 0);
        }
        for (int k = 0; k < 10; k++) {
            x.list(k, 0, 0);
        }
        Due.due("very much", x.barred(0, 0), 1);
    }

    private static void barredByPapers() {
        Due.says(0, "(AS KNOWN that day),");
        PortRooms x = withCrate();
        x.list(1, 0, 9999);
        x.paper(0, 0, 1, 10, 20);
        x.paper(0, 1, 2, 30, 30);
        int[] days = {9, 10, 19, 20, 29, 30};
        int[] want = {0, 0, 0, 1, 1, 0};
        for (int k = 0; k < days.length; k++) {
            Due.due("day " + days[k], x.barred(0, days[k]), want[k]);
        }
    }

    private static void lot() {
        Due.says(26, "LOT of a CRATE on a day by n (1 to 1000000): modulo n.");
        PortRooms x = new PortRooms(1);
        Due.due("modulo 1000000", x.lot(0, 0, 1000000), 685753);
        Due.due("modulo 2", x.lot(0, 0, 2), 1);
        Due.due("modulo 1", x.lot(0, 0, 1), 0);
        Due.due("another crate, the last day", x.lot(11, 9999, 7), 4);
    }

    private static void lotRefused() {
        Due.says(26, "BAD: CRATE 0 to 11, whether it is there or not.");
        Due.range("crate", 0, 11, v -> new PortRooms(1).lot(v, 0, 1));
        Due.range("day", 0, 9999, v -> new PortRooms(1).lot(0, v, 1));
        Due.range("n", 1, 1000000, v -> new PortRooms(1).lot(0, 0, v));
        PortRooms x = new PortRooms(1);
        x.crate(0, 1);
        Due.due("it is there", x.lot(0, 0, 1000000), 685753);
        Due.due("it is not there", x.lot(11, 9999, 7), 4);
    }

    private static void drawn() {
        Due.says(27, "DRAWN on a day, m (0 to 12) of them: the set (bits).");
        PortRooms x = stored(-9, 0, 2, 3, 4, 6);
        Due.due("none", x.drawn(0, 0), 0);
        Due.due("two", x.drawn(0, 2), 65);
        Due.due("two of another day", x.drawn(1, 2), 20);
        Due.due("all but one", Integer.bitCount(x.drawn(9999, 4)), 4);
        Due.due("just all", x.drawn(9999, 5), 93);
        Due.due("more than there are", x.drawn(1, 12), 93);
        x.move(6, NONE);
        Due.due("one less", x.drawn(0, 12), 29);
        Due.due("the last of twelve", stored(0, 11).drawn(5, 1), 2048);
        Due.due("no crates at all", new PortRooms(0).drawn(0, 12), 0);
        PortRooms y = withCrate();
        y.crate(0, 1);
        y.move(1, 0);
        Due.due("crates that are not there are not drawn", y.drawn(0, 12), 2);
    }

    private static void drawnRefused() {
        Due.says(27, "BAD.");
        Due.range("day", 0, 9999, v -> allStored(0).drawn(v, 1));
        Due.range("m", 0, 12, v -> allStored(0).drawn(0, v));
    }

    private static void often() {
        Due.says(28, "How often a CRATE is DRAWN on days from one to another one (among them; 400 days at most), m each,");
        PortRooms x = stored(-9, 0, 2, 3, 4, 6);
        Due.due("of 51 days", x.often(0, 0, 50, 2), 19);
        Due.due("of 400 days", x.often(0, 0, 399, 1), 79);
        Due.due("401 days", x.often(0, 0, 400, 1), BAD);
        Due.due("the last 400 days, all each", x.often(0, 9600, 9999, 5), 400);
        Due.due("the last 401 days", x.often(0, 9599, 9999, 5), BAD);
        Due.due("all days", x.often(0, 0, 9999, 5), BAD);
        Due.due("none each", x.often(0, 0, 50, 0), 0);
        Due.due("one day", x.often(6, 0, 0, 2), 1);
        PortRooms y = allStored(-9);
        Due.due("the day ahead", y.often(7, 8, 13, 3), 0);
        Due.due("from the day on", y.often(7, 7, 13, 3), 1);
        Due.due("to the day", y.often(7, 8, 14, 3), 1);
        Due.due("from day to day", y.often(7, 7, 14, 3), 2);
        Due.due("of other 400 days", y.often(7, 100, 499, 3), 95);
        Due.due("all of the first day", y.often(11, 0, 0, 12), 1);
    }

    private static void oftenAsAllIsNow() {
        Due.says(28, "as all is now.");
        PortRooms x = stored(-9, 0, 2, 3, 4, 6);
        Due.due("in a room", x.often(0, 0, 50, 2), 19);
        Due.due("in no room", x.often(1, 0, 50, 12), 0);
        x.move(0, NONE);
        Due.due("in no room any more", x.often(0, 0, 50, 12), 0);
        x.move(0, 5);
        Due.due("in another room", x.often(0, 0, 50, 2), 19);
        for (int c : new int[] {2, 3, 4, 6}) {
            x.move(c, NONE);
        }
        Due.due("alone in rooms", x.often(0, 0, 50, 1), 51);
    }

    private static void oftenRefused() {
        Due.says(28, "BAD.");
        Due.range("crate", 0, 11, v -> allStored(0).often(v, 0, 0, 1));
        Due.range("m", 0, 12, v -> allStored(0).often(0, 0, 0, v));
        Due.range("from", 101, 500, v -> allStored(0).often(0, v, 500, 1));
        Due.range("to", 500, 899, v -> allStored(0).often(0, 500, v, 1));
        Due.range("both", 0, 9999, v -> allStored(0).often(0, v, v, 1));
        PortRooms x = allStored(0);
        Due.due("to below from", x.often(0, 5, 4, 1), BAD);
        Due.due("from below", x.often(0, -1, 0, 1), BAD);
        Due.due("to above", x.often(0, 9999, 10000, 1), BAD);
        Due.due("their difference runs over", x.often(0, Integer.MIN_VALUE, Integer.MAX_VALUE, 1), BAD);
        Due.due("no crate, though it is below 12", withCrate().often(1, 0, 0, 1), BAD);
    }

    private static void opened() {
        Due.says(29, "A CRATE was OPENED: how many such there are.");
        PortRooms x = withCrate();
        x.crate(0, 1);
        Due.due("the first", x.opened(0, 0, 1, 0), 1);
        Due.due("another crate", x.opened(1, 9999, 100000, 255), 2);
        Due.due("one told twice is two", x.opened(1, 9999, 100000, 255), 3);
        Due.due("count", x.count(7), 3);
    }

    private static void openedRefused() {
        Due.says(29, "BAD; FULL: 60.");
        Due.due("no crate yet", new PortRooms(0).opened(0, 0, 1, 0), BAD);
        Due.range("crate", 0, 0, v -> withCrate().opened(v, 0, 1, 0));
        Due.range("day", 0, 9999, v -> withCrate().opened(0, v, 1, 0));
        Due.range("weight", 1, 100000, v -> withCrate().opened(0, 0, v, 0));
        Due.range("marks", 0, 255, v -> withCrate().opened(0, 0, 1, v));
        PortRooms x = withCrate();
        for (int k = 1; k <= 60; k++) {
            Due.due("the " + k, x.opened(0, 9999, 100000, 255), k);
        }
        Due.due("the 61st", x.opened(0, 0, 1, 0), FULL);
        Due.due("BAD ahead of FULL: crate", x.opened(1, 0, 1, 0), BAD);
        Due.due("BAD ahead of FULL: day", x.opened(0, -1, 1, 0), BAD);
        Due.due("BAD ahead of FULL: weight", x.opened(0, 0, 0, 0), BAD);
        Due.due("BAD ahead of FULL: marks", x.opened(0, 0, 1, 256), BAD);
        Due.due("count", x.count(7), 60);
        Due.due("the 61st is not kept", x.verdict(0), SAME);
    }

    private static void verdict() {
        Due.says(30, "VERDICT of a CRATE (0 to 2; 0 if it was opened once at most).");
        PortRooms x = withCrate();
        Due.due("never opened", x.verdict(0), 0);
        x.opened(0, 5, 1, 255);
        Due.due("opened once", x.verdict(0), 0);
        x.opened(0, 5, 12, 255);
        Due.due("opened twice", x.verdict(0), 1);
        x.opened(0, 6, 1, 0);
        Due.due("opened three times", x.verdict(0), 2);
        PortRooms y = withCrate();
        y.opened(0, 9999, 100000, 0);
        Due.due("opened once, heavy, on the last day", y.verdict(0), 0);
    }

    private static void verdictRefused() {
        Due.says(30, "BAD.");
        Due.range("crate", 0, 11, v -> stored(0).verdict(v));
        Due.due("no crate yet", new PortRooms(0).verdict(0), BAD);
        Due.due("one crate", withCrate().verdict(1), BAD);
    }

    private static void list() {
        Due.says(31, "A LIST: how many there are.");
        PortRooms x = new PortRooms(0);
        Due.due("the first", x.list(9, 0, 9999), 1);
        Due.due("one told twice is two", x.list(9, 0, 9999), 2);
        Due.due("of one day", x.list(0, 0, 0), 3);
        Due.due("count", x.count(8), 3);
    }

    private static void listRefused() {
        Due.says(31, "BAD: person, days (to below from); FULL: 20.");
        Due.range("person", 0, 9, v -> new PortRooms(0).list(v, 0, 0));
        Due.range("from", 0, 5, v -> new PortRooms(0).list(0, v, 5));
        Due.range("to", 5, 9999, v -> new PortRooms(0).list(0, 5, v));
        Due.range("both", 0, 9999, v -> new PortRooms(0).list(0, v, v));
        PortRooms x = new PortRooms(0);
        for (int k = 1; k <= 20; k++) {
            Due.due("the " + k, x.list(9, 5, 6), k);
        }
        Due.due("the 21st", x.list(0, 0, 0), FULL);
        Due.due("BAD ahead of FULL: person", x.list(10, 0, 0), BAD);
        Due.due("BAD ahead of FULL: to below from", x.list(0, 5, 4), BAD);
        Due.due("BAD ahead of FULL: days", x.list(0, 0, 10000), BAD);
        Due.due("count", x.count(8), 20);
    }

    private static void barred() {
        Due.says(32, "Whether a CRATE is BARRED on a day: 1, 0.");
        PortRooms x = withCrate();
        x.crate(1, 1);
        x.list(0, 3, 3);
        Due.due("that day", x.barred(0, 3), 1);
        Due.due("the day before", x.barred(0, 2), 0);
        Due.due("the day behind", x.barred(0, 4), 0);
        Due.due("another crate", x.barred(1, 3), 0);
    }

    private static void barredRefused() {
        Due.says(32, "BAD.");
        Due.range("crate", 0, 11, v -> stored(0).barred(v, 0));
        Due.range("day", 0, 9999, v -> withCrate().barred(0, v));
        Due.due("no crate yet", new PortRooms(0).barred(0, 0), BAD);
        Due.due("one crate", withCrate().barred(1, 0), BAD);
    }
}
