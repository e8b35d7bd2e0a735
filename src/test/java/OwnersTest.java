/** Promises 6 to 11, and what the terms say of owners: hold, holds, percent, share, truly, rings. */
public final class OwnersTest {
    private static final int BAD = PortRooms.BAD, NONE = PortRooms.NONE, FULL = PortRooms.FULL;
    private static final int NULL = -1000011, PLACE = -1000012;
    private static final int FAR = Integer.MAX_VALUE, FAR_BELOW = Integer.MIN_VALUE;
    /** Who (10: a person) has of whom (0 to 9: companies): 2788 rows of owners go from the person to company 0. */
    static final int[] MANY_ROWS = {
        1, 0, 1, 3, 1, 5, 2, 1, 2, 3, 2, 7, 2, 8, 3, 0, 3, 4, 3, 8, 3, 9, 4, 0, 4, 2, 4, 7, 4, 9, 5, 2, 5, 3, 5, 4, 5, 6,
        5, 9, 6, 1, 6, 2, 6, 4, 6, 8, 7, 1, 7, 5, 7, 6, 7, 9, 8, 0, 8, 1, 8, 4, 8, 7, 9, 0, 9, 6, 9, 8, 10, 2, 10, 4, 10, 5,
        10, 6, 10, 7};

    public static void main(String[] args) {
        people();
        mostHoldings();
        percentages();
        notOfItself();
        fromADayOn();
        untilALaterOne();
        shareInPeople();
        shareOverRows();
        shareOfOneOrMore();
        shareNoneTwice();
        shareCuts();
        shareAllAdded();
        shareAtMost();
        trueOwner();
        trueOwnerOfSeveral();
        nobodyHasAny();
        ringsOfTwoOrMore();
        inSomeRing();
        hold();
        holdRefused();
        holds();
        holdsPassedOver();
        holdsFull();
        holdsRefused();
        percent();
        percentRefused();
        share();
        shareRefused();
        truly();
        trulyRefused();
        rings();
        ringsRefused();
        Due.end();
    }

    private static PortRooms told(int... holdings) {
        PortRooms x = new PortRooms(0);
        for (int k = 0; k < holdings.length; k += 3) {
            x.hold(holdings[k], holdings[k + 1], holdings[k + 2], 0);
        }
        return x;
    }

    private static void people() {
        Due.says(0, "OWNERS: people 0 to 9, companies 10 to 19.");
        Due.range("owner", 0, 19, v -> new PortRooms(0).hold(v, v == 19 ? 10 : 19, 1, 0));
        Due.range("company", 10, 19, v -> new PortRooms(0).hold(0, v, 1, 0));
        Due.range("person", 0, 9, v -> new PortRooms(0).share(v, 10, 0));
        Due.due("9 owns itself", new PortRooms(0).truly(9, 0), 9);
        Due.due("nobody owns 10", new PortRooms(0).truly(10, 0), NONE);
        PortRooms x = told(9, 19, 60);
        Due.due("the last person of the last company", x.share(9, 19, 0), 600000);
    }

    private static void mostHoldings() {
        Due.says(0, "HOLDINGS, as they are told (40 at most):");
        PortRooms x = new PortRooms(0);
        for (int k = 1; k <= 40; k++) {
            Due.due("the " + k, x.hold(k / 10, 10 + k % 10, k, 0), k);
        }
        Due.due("the 41st", x.hold(9, 19, 1, 0), FULL);
        Due.due("the first is kept", x.percent(0, 11, 0), 1);
        Due.due("the 40th is kept", x.percent(4, 10, 0), 40);
        Due.due("the 41st is not", x.percent(9, 19, 0), 0);
    }

    private static void percentages() {
        Due.says(0, "an OWNER has a percentage (0 to 100)");
        Due.range("percentage", 0, 100, v -> new PortRooms(0).hold(0, 10, v, 0));
        Due.due("0", told(0, 10, 0).percent(0, 10, 0), 0);
        Due.due("1", told(0, 10, 1).percent(0, 10, 0), 1);
        Due.due("100", told(0, 10, 100).percent(0, 10, 0), 100);
        PortRooms x = told(0, 10, 100, 1, 10, 100);
        Due.due("two may have all", x.share(0, 10, 0) + x.share(1, 10, 0), 2000000);
    }

    private static void notOfItself() {
        Due.says(0, "of a company (not of itself)");
        for (int c = 10; c < 20; c++) {
            Due.due(c + " of itself", new PortRooms(0).hold(c, c, 1, 0), BAD);
        }
        Due.due("a person of itself is of no company", new PortRooms(0).hold(3, 3, 1, 0), BAD);
        Due.due("of the next one", new PortRooms(0).hold(10, 11, 1, 0), 1);
    }

    private static void fromADayOn() {
        Due.says(0, "from a day on,");
        PortRooms x = new PortRooms(0);
        x.hold(0, 10, 30, 0);
        x.hold(1, 10, 40, 20);
        x.hold(2, 10, 50, 9999);
        Due.due("from day 0 on", x.percent(0, 10, 0), 30);
        Due.due("to the last day", x.percent(0, 10, 9999), 30);
        Due.due("the day before", x.percent(1, 10, 19), 0);
        Due.due("the day itself", x.percent(1, 10, 20), 40);
        Due.due("before the last day", x.percent(2, 10, 9998), 0);
        Due.due("the last day", x.percent(2, 10, 9999), 50);
    }

    private static void untilALaterOne() {
        Due.says(0, "till a later one (by days; of one day the one told last) of the same OWNER and company tells else.");
        PortRooms x = new PortRooms(0);
        x.hold(1, 10, 30, 20);
        x.hold(1, 10, 60, 10);
        x.hold(1, 10, 5, 15);
        x.hold(1, 10, 7, 15);
        x.hold(2, 10, 8, 15);
        x.hold(1, 11, 9, 15);
        x.hold(1, 10, 0, 30);
        int[] days = {0, 9, 10, 14, 15, 19, 20, 29, 30, 9999};
        int[] want = {0, 0, 60, 60, 7, 7, 30, 30, 0, 0};
        for (int k = 0; k < days.length; k++) {
            Due.due("on day " + days[k], x.percent(1, 10, days[k]), want[k]);
        }
        Due.due("an earlier day again", x.percent(1, 10, 10), 60);
        Due.due("another owner tells nothing else", x.percent(2, 10, 99), 8);
        Due.due("another company neither", x.percent(1, 11, 99), 9);
        PortRooms y = told(0, 10, 50, 0, 10, 0);
        Due.due("of day 0 the one told last", y.percent(0, 10, 0), 0);
        Due.due("and that is no share", y.share(0, 10, 0), 0);
        PortRooms z = told(0, 10, 0, 0, 10, 50);
        Due.due("0 is no end", z.percent(0, 10, 0), 50);
    }

    private static void shareInPeople() {
        Due.says(0, "SHARE of a person in an OWNER on a day: in itself 1000000, in another person 0;");
        PortRooms x = told(0, 10, 100, 1, 10, 100);
        for (int p = 0; p < 10; p += 9) {
            for (int q = 0; q < 10; q += 3) {
                Due.due(p + " in " + q, x.share(p, q, 0), p == q ? 1000000 : 0);
            }
        }
        Due.due("on the last day", x.share(4, 4, 9999), 1000000);
    }

    private static void shareOverRows() {
        Due.says(0, "in a company: over all rows of OWNERS from the person to the company,");
        PortRooms x = told(0, 10, 50, 0, 11, 20, 10, 11, 40, 11, 12, 10, 10, 12, 30, 1, 12, 7);
        Due.due("straight", x.share(0, 10, 0), 500000);
        Due.due("straight, and over 10", x.share(0, 11, 0), 400000);
        Due.due("over 11, over 10 and 11, over 10", x.share(0, 12, 0), 20000 + 20000 + 150000);
        Due.due("another person straight", x.share(1, 12, 0), 70000);
        Due.due("not backward", x.share(1, 11, 0), 0);
        Due.due("no row", x.share(2, 12, 0), 0);
        PortRooms y = new PortRooms(0);
        y.hold(0, 19, 100, 0);
        for (int c = 19; c > 10; c--) {
            y.hold(c, c - 1, 99, 0);
        }
        Due.due("a row of all companies", y.share(0, 10, 0), 913516);
    }

    private static void shareOfOneOrMore() {
        Due.says(0, "each having 1 or more of the next one,");
        Due.due("1", told(0, 10, 1, 10, 11, 100).share(0, 11, 0), 10000);
        Due.due("0 at the start", told(0, 10, 0, 10, 11, 100).share(0, 11, 0), 0);
        Due.due("0 at the end", told(0, 10, 100, 10, 11, 0).share(0, 11, 0), 0);
        PortRooms x = told(0, 10, 50, 0, 11, 20, 10, 11, 40);
        x.hold(10, 11, 0, 7);
        Due.due("before it is 0", x.share(0, 11, 6), 400000);
        Due.due("when it is 0", x.share(0, 11, 7), 200000);
    }

    private static void shareNoneTwice() {
        Due.says(0, "none twice:");
        PortRooms x = told(0, 10, 50, 10, 11, 50, 11, 10, 50);
        Due.due("not around the ring", x.share(0, 10, 0), 500000);
        Due.due("along the ring", x.share(0, 11, 0), 250000);
        x.hold(0, 11, 50, 0);
        Due.due("both entries", x.share(0, 10, 0), 750000);
        Due.due("both entries, the other", x.share(0, 11, 0), 750000);
        PortRooms y = told(0, 10, 100, 10, 11, 100, 11, 12, 100, 12, 10, 100, 12, 11, 100, 11, 13, 100, 13, 12, 100);
        Due.due("two rows to 12", y.share(0, 12, 0), 2000000);
        Due.due("one row to 13", y.share(0, 13, 0), 1000000);
    }

    /** 1000000 goes by 33, 33, 33, 33 to 330000, 108900, 35937, 11859.21: cut at each step and from the person on. */
    private static void shareCuts() {
        Due.says(0, "1000000 times each percentage by 100, one behind another from the person on, cut each time;");
        PortRooms x = told(9, 10, 33, 10, 11, 33, 11, 12, 33, 12, 13, 33, 13, 14, 33);
        int[] want = {330000, 108900, 35937, 11859, 3913};
        for (int k = 0; k < 5; k++) {
            Due.due("cut " + k, x.share(9, 10 + k, 0), want[k]);
        }
        PortRooms y = told(0, 10, 1, 10, 11, 1, 11, 12, 1, 12, 13, 99, 12, 14, 99, 13, 15, 100, 14, 15, 100, 12, 16, 100);
        Due.due("1 is left", y.share(0, 12, 0), 1);
        Due.due("99 of 1 are cut to none", y.share(0, 13, 0), 0);
        Due.due("cut each time, not at the end", y.share(0, 15, 0), 0);
        Due.due("1 goes on whole", y.share(0, 16, 0), 1);
        // 990000, 59400, 5346, 534.6, 32.04; from the other end it would be 31.9.
        PortRooms z = told(0, 10, 99, 10, 11, 6, 11, 12, 9, 12, 13, 10, 13, 14, 6);
        Due.due("from the person on", z.share(0, 14, 0), 32);
    }

    private static void shareAllAdded() {
        Due.says(0, "all added,");
        PortRooms x = new PortRooms(0);
        for (int a = 10; a < 16; a++) {
            x.hold(0, a, 100, 0);
            for (int b = 10; b < 16; b++) {
                x.hold(a, b, 100, 0);
            }
        }
        Due.due("every company has every other", x.count(1), 36);
        // Rows among six that end in one: 1 + 5 + 20 + 60 + 120 + 120.
        Due.due("all rows", x.share(0, 12, 0), 326000000);
    }

    private static PortRooms manyRows(int percentOfPerson) {
        PortRooms x = new PortRooms(0);
        for (int k = 0; k < MANY_ROWS.length; k += 2) {
            boolean isPerson = MANY_ROWS[k] == 10;
            x.hold(isPerson ? 0 : 10 + MANY_ROWS[k], 10 + MANY_ROWS[k + 1], isPerson ? percentOfPerson : 100, 0);
        }
        return x;
    }

    private static void shareAtMost() {
        Due.says(0, "2000000000 at most.");
        Due.due("forty are told", manyRows(100).count(1), 40);
        Due.due("2788 rows of 500000", manyRows(50).share(0, 10, 0), 1394000000);
        Due.due("2788 rows of 710000", manyRows(71).share(0, 10, 0), 1979480000);
        Due.due("2788 rows of 720000", manyRows(72).share(0, 10, 0), 2000000000);
        Due.due("2788 rows, beyond what an int holds", manyRows(100).share(0, 10, 0), 2000000000);
    }

    private static void trueOwner() {
        Due.says(0, "TRUE OWNER: the person with the greatest SHARE,");
        PortRooms x = told(5, 10, 40, 3, 10, 39, 11, 10, 100, 9, 11, 41);
        Due.due("by a chain", x.truly(10, 0), 9);
        Due.due("a company has none of its own", told(10, 11, 100, 0, 11, 1).truly(11, 0), 0);
        Due.due("the last person by one percent", told(0, 10, 50, 9, 10, 51).truly(10, 0), 9);
        Due.due("the sum of rows", told(0, 10, 50, 1, 10, 30, 1, 11, 100, 11, 10, 21).truly(10, 0), 1);
    }

    private static void trueOwnerOfSeveral() {
        Due.says(0, "of several the least;");
        Due.due("of two", told(5, 10, 40, 4, 10, 40, 3, 10, 39).truly(10, 0), 4);
        PortRooms x = new PortRooms(0);
        for (int p = 9; p >= 0; p--) {
            x.hold(p, 10, 10, 0);
        }
        Due.due("of all", x.truly(10, 0), 0);
    }

    private static void nobodyHasAny() {
        Due.says(0, "NONE: nobody has any.");
        Due.due("nothing told", new PortRooms(0).truly(19, 9999), NONE);
        Due.due("a percentage of 0", told(0, 10, 0).truly(10, 0), NONE);
        Due.due("a company's alone", told(13, 14, 100).truly(14, 0), NONE);
        Due.due("a ring without people", told(13, 14, 100, 14, 13, 100).truly(14, 0), NONE);
        PortRooms x = told(9, 15, 1, 15, 16, 1, 16, 17, 1, 17, 18, 99);
        Due.due("the least that is any", x.truly(17, 0), 9);
        Due.due("cut to nothing", x.truly(18, 0), NONE);
    }

    private static void ringsOfTwoOrMore() {
        Due.says(0, "A RING: two companies or more each of which has 1 or more of the next one, and the last of the first:");
        Due.due("a chain is none", told(10, 11, 100, 11, 12, 100, 12, 13, 100).rings(0), 0);
        Due.due("two", told(10, 19, 1, 19, 10, 1).rings(0), 1 | 512);
        Due.due("two, one of them with 0", told(10, 19, 1, 19, 10, 0).rings(0), 0);
        Due.due("three", told(10, 11, 1, 11, 12, 1, 12, 10, 1).rings(0), 7);
        Due.due("not against one another", told(10, 11, 1, 11, 12, 1, 10, 12, 1).rings(0), 0);
        PortRooms x = new PortRooms(0);
        for (int k = 0; k < 10; k++) {
            x.hold(10 + (k * 3 + 3) % 10, 10 + k * 3 % 10, 1, 9999);
        }
        Due.due("all ten in one", x.rings(9999), 1023);
        Due.due("not yet", x.rings(9998), 0);
    }

    private static void inSomeRing() {
        Due.says(0, "IN A RING is a company that is in some RING.");
        PortRooms x = told(10, 11, 1, 11, 12, 1, 12, 10, 1, 12, 13, 1, 13, 18, 50, 18, 19, 100, 19, 18, 100);
        Due.due("between rings is none", x.rings(0), 7 | 256 | 512);
        x.hold(19, 12, 3, 7);
        Due.due("now it is", x.rings(7), 7 | 8 | 256 | 512);
        x.hold(11, 12, 0, 8);
        Due.due("two are out of it", x.rings(8), 4 | 8 | 256 | 512);
        x.hold(0, 10, 100, 0);
        Due.due("people are in none", x.rings(0), 7 | 256 | 512);
        Due.due("ahead of a ring", told(14, 10, 1, 10, 11, 1, 11, 10, 1).rings(0), 3);
        Due.due("behind a ring", told(10, 11, 1, 11, 10, 1, 11, 14, 1).rings(0), 3);
        Due.due("two rings that meet", told(10, 11, 1, 11, 10, 1, 11, 12, 1, 12, 11, 1).rings(0), 7);
    }

    private static void hold() {
        Due.says(6, "A HOLDING: how many there are.");
        PortRooms x = new PortRooms(0);
        Due.due("the first", x.hold(0, 10, 0, 0), 1);
        Due.due("the second", x.hold(18, 19, 100, 9999), 2);
        Due.due("one told twice is two", x.hold(18, 19, 100, 9999), 3);
        Due.due("a later company of an earlier", x.hold(19, 10, 1, 1), 4);
        Due.due("count", x.count(1), 4);
    }

    private static void holdRefused() {
        Due.says(6, "BAD: OWNER, company, percentage (0 to 100), day; FULL: 40.");
        Due.range("owner", 0, 18, v -> v == 19 ? BAD : new PortRooms(0).hold(v, 19, 1, 0));
        Due.due("owner 20", new PortRooms(0).hold(20, 19, 1, 0), BAD);
        Due.range("company", 10, 19, v -> new PortRooms(0).hold(0, v, 1, 0));
        Due.range("percentage", 0, 100, v -> new PortRooms(0).hold(0, 10, v, 0));
        Due.range("day", 0, 9999, v -> new PortRooms(0).hold(0, 10, 1, v));
        Due.due("of itself", new PortRooms(0).hold(19, 19, 1, 0), BAD);
        PortRooms x = new PortRooms(0);
        for (int k = 1; k <= 40; k++) {
            Due.due("the " + k, x.hold(0, 10, k, 0), k);
        }
        Due.due("the 41st", x.hold(0, 10, 99, 0), FULL);
        Due.due("the 42nd", x.hold(0, 11, 99, 0), FULL);
        Due.due("BAD owner ahead of FULL", x.hold(20, 10, 1, 0), BAD);
        Due.due("BAD company ahead of FULL", x.hold(0, 9, 1, 0), BAD);
        Due.due("BAD percentage ahead of FULL", x.hold(0, 10, 101, 0), BAD);
        Due.due("BAD day ahead of FULL", x.hold(0, 10, 1, 10000), BAD);
        Due.due("the 40th counts", x.percent(0, 10, 0), 40);
        Due.due("status is not of hold", x.status(), 0);
    }

    private static PortRooms withSheet(int lane, int at, int... items) {
        PortRooms x = new PortRooms(0);
        x.sheet(0, lane, 60);
        for (int k = 0; k < items.length; k++) {
            x.set(0, at + k, items[k]);
        }
        return x;
    }

    private static void holds() {
        Due.says(7, "HOLDINGS, n (1 to 15) of four ITEMS each of a SHEET from i on (OWNER, company, percentage, day): "
            + "how many came;");
        for (int lane = 0; lane < 3; lane++) {
            PortRooms x = withSheet(lane, 1, 3, 15, 33, 7, 5, 16, 50, 99);
            Due.due("one", x.holds(0, 1, 1), 1);
            Due.due("the first", x.percent(3, 15, 7), 33);
            Due.due("its day", x.percent(3, 15, 6), 0);
            Due.due("the second is not told", x.percent(5, 16, 99), 0);
            Due.due("the second", x.holds(0, 5, 1), 1);
            Due.due("is told", x.percent(5, 16, 99), 50);
            Due.due("its day", x.percent(5, 16, 98), 0);
            Due.due("both", x.holds(0, 1, 2), 2);
            Due.due("count", x.count(1), 4);
        }
        PortRooms y = withSheet(2, 56, 9, 19, 100, 9999);
        Due.due("the last four items", y.holds(0, 56, 1), 1);
        Due.due("are told", y.percent(9, 19, 9999), 100);
        Due.due("all of a sheet", y.holds(0, 0, 15), 1);
    }

    private static void holdsPassedOver() {
        Due.says(7, "those that would be BAD, FULL are passed over.");
        PortRooms x = withSheet(2, 0,
            3, 9, 33, 7, 4, 15, 101, 0, 5, 16, 50, 9999, 16, 16, 1, 1, 6, 17, 0, 10000, 20, 10, 1, 1, -1, 10, 1, 1,
            0, 20, 1, 1, 0, 10, -1, 1, 0, 10, 1, -1, 7, 17, 12, 3);
        Due.due("two of eleven", x.holds(0, 0, 11), 2);
        Due.due("that is no refusal", x.status(), 0);
        Due.due("the third", x.percent(5, 16, 9999), 50);
        Due.due("the last", x.percent(7, 17, 3), 12);
        Due.due("count", x.count(1), 2);
        Due.due("none but such", x.holds(0, 0, 2), 0);
        PortRooms y = withSheet(0, 0, 0, 10, 50, 200);
        Due.due("a byte of 200 is below 0", y.holds(0, 0, 1), 0);
    }

    private static void holdsFull() {
        Due.says(7, "those that would be BAD, FULL are passed over.");
        PortRooms x = new PortRooms(0);
        x.sheet(2, 0, 60);
        for (int k = 0; k < 15; k++) {
            x.set(2, 4 * k, k % 10);
            x.set(2, 4 * k + 1, k < 10 ? 10 : 11);
            x.set(2, 4 * k + 2, k + 1);
            x.set(2, 4 * k + 3, k);
        }
        Due.due("fifteen", x.holds(2, 0, 15), 15);
        Due.due("thirty", x.holds(2, 0, 15), 15);
        for (int k = 0; k < 4; k++) {
            x.hold(9, 19, k, k);
        }
        Due.due("as many as are left", x.holds(2, 0, 15), 6);
        Due.due("full", x.holds(2, 0, 15), 0);
        Due.due("that is no refusal", x.status(), 0);
        Due.due("count", x.count(1), 40);
    }

    private static void holdsRefused() {
        Due.says(7, "BAD: SHEET, n; NULL; PLACE.");
        PortRooms x = withSheet(2, 0, 0, 10, 1, 1);
        Due.range("n", 1, 15, v -> withSheet(2, 0, 0, 10, 1, 1).holds(0, 0, v));
        Due.range("sheet", 0, 7, v -> withSheet(2, 0, 0, 10, 1, 1).holds(v, 0, 1));
        Due.due("missing", x.holds(1, 0, 1), NULL);
        Due.due("its status", x.status(), 1);
        Due.due("NULL ahead of PLACE", x.holds(1, -1, 1), NULL);
        Due.due("BAD ahead of NULL", x.holds(1, 0, 16), BAD);
        Due.due("BAD leaves status", x.status(), 1);
        Due.due("beyond the end", x.holds(0, 1, 15), PLACE);
        Due.due("status of a place", x.status(), 2);
        Due.due("below", x.holds(0, -1, 1), PLACE);
        Due.due("far below", x.holds(0, FAR_BELOW, 15), PLACE);
        Due.due("just to the end", x.holds(0, 56, 1), 0);
        Due.due("status is 0 again", x.status(), 0);
        Due.due("just beyond", x.holds(0, 57, 1), PLACE);
        Due.due("at the end", x.holds(0, 60, 1), PLACE);
        Due.due("far beyond: the sum runs over", x.holds(0, FAR, 15), PLACE);
        Due.due("BAD ahead of PLACE", x.holds(0, -1, 0), BAD);
        x.sheet(0, 2, 3);
        Due.due("three items are no holding", x.holds(0, 0, 1), PLACE);
        x.sheet(0, 2, 0);
        Due.due("no items", x.holds(0, 0, 1), PLACE);
        Due.due("nothing came by these", x.count(1), 0);
    }

    private static void percent() {
        Due.says(8, "What an OWNER has of a company on a day, in percent.");
        PortRooms x = new PortRooms(0);
        Due.due("nothing told", x.percent(0, 10, 0), 0);
        x.hold(19, 10, 77, 5);
        Due.due("a company's", x.percent(19, 10, 5), 77);
        Due.due("not the other way", x.percent(10, 19, 5), 0);
        Due.due("before", x.percent(19, 10, 4), 0);
        x.hold(0, 19, 50, 0);
        Due.due("what is had over a company is not meant", x.percent(0, 10, 5), 0);
    }

    private static void percentRefused() {
        Due.says(8, "BAD (one company twice, too).");
        for (int c = 10; c < 20; c++) {
            Due.due("twice " + c, new PortRooms(0).percent(c, c, 0), BAD);
        }
        Due.due("a person twice", new PortRooms(0).percent(3, 3, 0), BAD);
        Due.range("owner", 0, 18, v -> v == 19 ? BAD : new PortRooms(0).percent(v, 19, 0));
        Due.due("owner 20", new PortRooms(0).percent(20, 19, 0), BAD);
        Due.range("company", 10, 19, v -> new PortRooms(0).percent(0, v, 0));
        Due.range("day", 0, 9999, v -> new PortRooms(0).percent(0, 10, v));
    }

    private static void share() {
        Due.says(9, "SHARE of a person in an OWNER on a day.");
        PortRooms x = new PortRooms(0);
        x.hold(0, 10, 50, 5);
        x.hold(10, 11, 40, 6);
        x.hold(10, 11, 0, 7);
        Due.due("the day before", x.share(0, 10, 4), 0);
        Due.due("the day", x.share(0, 10, 5), 500000);
        Due.due("a chain not yet", x.share(0, 11, 5), 0);
        Due.due("a chain", x.share(0, 11, 6), 200000);
        Due.due("a chain no more", x.share(0, 11, 7), 0);
    }

    private static void shareRefused() {
        Due.says(9, "BAD.");
        Due.range("person", 0, 9, v -> new PortRooms(0).share(v, 10, 0));
        Due.range("owner", 0, 19, v -> new PortRooms(0).share(0, v, 0));
        Due.range("day", 0, 9999, v -> new PortRooms(0).share(0, 10, v));
        Due.due("a company in itself", new PortRooms(0).share(10, 10, 0), BAD);
    }

    private static void truly() {
        Due.says(10, "TRUE OWNER of an OWNER on a day.");
        PortRooms x = new PortRooms(0);
        for (int p = 0; p < 10; p++) {
            Due.due("a person", x.truly(p, 0), p);
        }
        x.hold(5, 10, 40, 1);
        x.hold(4, 10, 41, 2);
        x.hold(4, 10, 0, 3);
        Due.due("on day 0", x.truly(10, 0), NONE);
        Due.due("on day 1", x.truly(10, 1), 5);
        Due.due("on day 2", x.truly(10, 2), 4);
        Due.due("on day 3", x.truly(10, 3), 5);
    }

    private static void trulyRefused() {
        Due.says(10, "BAD; NONE.");
        Due.range("owner", 0, 19, v -> new PortRooms(0).truly(v, 0));
        Due.range("day", 0, 9999, v -> new PortRooms(0).truly(10, v));
        Due.due("a person is owned on any day", new PortRooms(0).truly(0, 9999), 0);
        Due.due("a company of nobody", new PortRooms(0).truly(10, 9999), NONE);
        Due.due("NONE is no finding", told(0, 10, 1).status(), 0);
    }

    private static void rings() {
        Due.says(11, "The set of companies IN A RING on a day (bits, company 10 being bit 0).");
        PortRooms x = new PortRooms(0);
        Due.due("none told", x.rings(0), 0);
        x.hold(10, 19, 1, 5);
        x.hold(19, 10, 1, 6);
        x.hold(12, 13, 1, 7);
        x.hold(13, 12, 1, 7);
        x.hold(10, 19, 0, 8);
        int[] want = {0, 1 | 512, 1 | 512 | 4 | 8, 4 | 8};
        for (int k = 0; k < 4; k++) {
            Due.due("on day " + (5 + k), x.rings(5 + k), want[k]);
        }
    }

    private static void ringsRefused() {
        Due.says(11, "BAD.");
        Due.range("day", 0, 9999, v -> new PortRooms(0).rings(v));
    }
}
