/** Promises 33 to 39: day, kind, as, ask, trace, count, status. */
public final class AskedTest {
    private static final int BAD = PortRooms.BAD, NONE = PortRooms.NONE, STATE = PortRooms.STATE, FULL = PortRooms.FULL;
    private static final int NOT_THAT_KIND = -1000013;
    /** Crates of withKinds(), by the kind that they are told as on day 10. */
    private static final int OWED = 1, DEEP = 2, STOPPED = 3, CLEAN = 4, STOPPED_AND_DEEP = 5;

    public static void main(String[] args) {
        day();
        kind();
        kindOfLittle();
        kindByDays();
        as();
        ask();
        askOdd();
        traceStays();
        count();
        status();
        Due.end();
    }

    /** Crate k is worth 100 * k + 7; those told on day 10 as their names say; crate 0 is OWED up to its worth. */
    private static PortRooms withKinds() {
        PortRooms x = new PortRooms(0);
        int[] owners = {0, 11, 2, 3, 14, 3};
        for (int k = 0; k < owners.length; k++) {
            x.crate(owners[k], 100 * k + 7);
        }
        x.pledge(0, 9, 7, 3, 5);
        x.pledge(OWED, 9, 50, 3, 5);
        x.pledge(OWED, 9, 30, 3, 10);
        x.pledge(OWED, 9, 70000, 3, 11);
        x.pledge(DEEP, 9, 200, 3, 5);
        x.pledge(DEEP, 9, 13, 3, 10);
        x.pledge(STOPPED_AND_DEEP, 9, 9000, 3, 5);
        x.list(3, 10, 12);
        x.day(10);
        return x;
    }

    private static void day() {
        PortRooms x = new PortRooms(0);
        Due.due("P33 at first", x.day(9999), 0);
        Due.due("P33 above", x.day(10000), BAD);
        Due.due("P33 below", x.day(-1), BAD);
        Due.due("P33 what it was", x.day(0), 9999);
    }

    private static void kind() {
        PortRooms x = withKinds();
        int[] want = {1, 1, 2, 3, 4, 3};
        for (int k = 0; k < want.length; k++) {
            Due.due("P34 crate " + k, x.kind(k), want[k]);
        }
        Due.due("P34 no crate", x.kind(6), BAD);
        Due.due("P34 crate below", x.kind(-1), BAD);
    }

    private static void kindOfLittle() {
        PortRooms x = new PortRooms(0);
        x.crate(0, 1);
        x.pledge(0, 0, 1, 0, 0);
        Due.due("P34 a sum of 1 is owed", x.kind(0), 1);
        x.pledge(0, 0, 1, 0, 0);
        Due.due("P34 a sum of 2 is more", x.kind(0), 2);
    }

    private static void kindByDays() {
        PortRooms x = withKinds();
        int[][] want = {{4, 4, 4, 4, 4, 4}, {1, 1, 1, 4, 4, 2}, {1, 1, 2, 3, 4, 3}, {1, 2, 2, 3, 4, 3}, {1, 2, 2, 4, 4, 2}};
        int[] days = {4, 9, 10, 11, 13};
        for (int d = 0; d < days.length; d++) {
            x.day(days[d]);
            for (int k = 0; k < 6; k++) {
                Due.due("P34 crate " + k + " on day " + days[d], x.kind(k), want[d][k]);
            }
        }
    }

    private static void as() {
        PortRooms x = withKinds();
        boolean[][] is = {
            {true, true, false, false, false}, {true, true, false, false, false}, {true, true, true, false, false},
            {true, false, false, true, false}, {true, false, false, false, true}, {true, false, false, true, false}};
        for (int k = 0; k < is.length; k++) {
            for (int kind = 0; kind < 5; kind++) {
                Due.due("P35 crate " + k + " as " + kind, x.as(k, kind), is[k][kind] ? 100 * k + 7 : NOT_THAT_KIND);
                Due.due("P39 of that", x.status(), is[k][kind] ? 0 : 3);
            }
        }
        Due.due("P35 no crate", x.as(6, 0), BAD);
        Due.due("P35 crate below", x.as(-1, 0), BAD);
        Due.due("P35 kind", x.as(0, 5), BAD);
        Due.due("P35 kind below", x.as(0, -1), BAD);
        Due.due("P39 as it was before BAD", x.status(), 3);
    }

    private static void asked(PortRooms x, int crate, int what, int want, int... trace) {
        String call = "P36 crate " + crate + ", " + what;
        Due.due(call, x.ask(crate, what), want);
        for (int k = 0; k < trace.length; k++) {
            Due.due(call + ": P37 " + k, x.trace(k), trace[k]);
        }
        Due.due(call + ": P37 none behind", x.trace(trace.length), NONE);
    }

    private static void ask() {
        PortRooms x = withKinds();
        asked(x, 0, 0, 0, 11, 10);
        asked(x, OWED, 0, 107 - 80, 11, 10);
        asked(x, OWED, 1, 11 + 100, 21, 20);
        asked(x, DEEP, 0, (207 - 213) / 2, 12, 11, 10);
        asked(x, DEEP, 1, 2 + 100, 21, 20);
        asked(x, STOPPED, 0, -1003, 13, 22, 20);
        asked(x, STOPPED, 1, 1003, 22, 20);
        asked(x, CLEAN, 0, 407, 10);
        asked(x, CLEAN, 1, 14 + 407, 23, 20, 10);
        asked(x, STOPPED_AND_DEEP, 0, -1003, 13, 22, 20);
        asked(x, STOPPED_AND_DEEP, 1, 1003, 22, 20);
        x.paper(CLEAN, 14, 15, 10, 10);
        asked(x, CLEAN, 1, 15 + 407, 23, 20, 10);
        x.paper(CLEAN, 15, 16, 10, 11);
        asked(x, CLEAN, 1, 15 + 407, 23, 20, 10);
        x.paper(OWED, 11, 12, 11, 11);
        asked(x, OWED, 1, 111, 21, 20);
        x.day(11);
        asked(x, OWED, 1, 112, 21, 20);
    }

    /** What is odd and below 0 is cut towards 0. */
    private static void askOdd() {
        PortRooms x = new PortRooms(0);
        x.crate(0, 10);
        x.pledge(0, 1, 13, 0, 0);
        asked(x, 0, 0, -1, 12, 11, 10);
        x.pledge(0, 1, 2, 0, 0);
        asked(x, 0, 0, -2, 12, 11, 10);
    }

    private static void traceStays() {
        PortRooms x = withKinds();
        x.ask(DEEP, 0);
        Due.due("P36 no crate", x.ask(6, 0), BAD);
        Due.due("P36 crate below", x.ask(-1, 0), BAD);
        Due.due("P36 what", x.ask(0, 2), BAD);
        Due.due("P36 what below", x.ask(0, -1), BAD);
        Due.due("P37 refused asks leave it", x.trace(0), 12);
        x.kind(CLEAN);
        x.as(CLEAN, 4);
        Due.due("P37 so do other calls", x.trace(2), 10);
        Due.due("P37 none below", x.trace(-1), NONE);
        Due.due("P37 none far", x.trace(16), NONE);
        Due.due("P37 none farther", x.trace(Integer.MAX_VALUE), NONE);
    }

    private static void count() {
        PortRooms x = new PortRooms(0);
        x.crate(0, 1);
        x.crate(0, 1);
        for (int k = 0; k < 3; k++) {
            x.sheet(2 * k, 0, 0);
        }
        for (int k = 0; k < 4; k++) {
            x.hold(0, 10, 1, 1);
        }
        for (int k = 0; k < 5; k++) {
            x.paper(0, 0, 1, 0, 0);
        }
        for (int k = 0; k < 6; k++) {
            x.pledge(0, 0, 1, 0, 0);
        }
        DutiesTest.feedText(x, "out part 1;");
        x.duties();
        for (int k = 0; k < 7; k++) {
            x.act(0, 0, 0, 0);
        }
        for (int k = 0; k < 8; k++) {
            x.opened(0, 0, 1, 0);
        }
        for (int k = 0; k < 9; k++) {
            x.list(0, 0, 0);
        }
        for (int k = 0; k < 10; k++) {
            x.feed(0, 1);
        }
        int[] want = {3, 4, 2, 5, 6, 1, 7, 8, 9, 10};
        for (int what = 0; what < want.length; what++) {
            Due.due("P38 " + what, x.count(what), want[what]);
        }
        Due.due("P38 above", x.count(10), BAD);
        Due.due("P38 below", x.count(-1), BAD);
    }

    private static void status() {
        PortRooms x = new PortRooms(0);
        x.crate(0, 1);
        x.set(0, 0, 0);
        Due.due("P39 NULL", x.status(), 1);
        x.set(8, 0, 0);
        x.hold(0, 10, 101, 0);
        x.move(0, NONE);
        Due.due("P39 STATE is none of its", x.move(0, NONE), STATE);
        x.room(0, 0, 0);
        Due.due("P39 FULL is none of its", x.move(0, 0), FULL);
        x.hold(0, 10, 1, 0);
        x.truly(10, 0);
        x.count(0);
        x.kind(0);
        x.ask(0, 0);
        Due.due("P39 other calls leave it", x.status(), 1);
        x.sheet(0, 0, 1);
        Due.due("P39 sheet", x.status(), 0);
        x.set(0, 1, 0);
        Due.due("P39 PLACE", x.status(), 2);
        x.set(0, 0, 0);
        Due.due("P39 set", x.status(), 0);
        x.as(0, 3);
        Due.due("P39 KIND", x.status(), 3);
        x.as(0, 0);
        Due.due("P39 as", x.status(), 0);
        x.sheet(0, 0, -5);
        Due.due("P39 SIZE", x.status(), 4);
        x.copy(0, 0, 0, 0, 1);
        Due.due("P39 copy", x.status(), 0);
        x.sheet(1, 1, 1);
        x.copy(0, 0, 1, 0, 1);
        Due.due("P39 STORE", x.status(), 5);
        x.drop(1);
        Due.due("P39 drop", x.status(), 0);
        x.holds(0, 0, 1);
        Due.due("P39 PLACE of holds", x.status(), 2);
        x.sheet(0, 0, 4);
        x.sheet(1, 0, -1);
        x.holds(0, 0, 1);
        Due.due("P39 holds", x.status(), 0);
    }
}
