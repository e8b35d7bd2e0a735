/** Promises 33 to 39, and what the terms say of kinds and asks: day, kind, as, ask, trace, count, status. */
public final class AskedTest {
    private static final int BAD = PortRooms.BAD, NONE = PortRooms.NONE, STATE = PortRooms.STATE, FULL = PortRooms.FULL;
    private static final int NOT_THAT_KIND = -1000013;
    /** Crates of withKinds(), by the kind that they are told as on day 10. */
    private static final int OWED_IN_FULL = 0, OWED = 1, DEEP = 2, STOPPED = 3, CLEAN = 4, STOPPED_AND_DEEP = 5;

    public static void main(String[] args) {
        kindsByTheDay();
        owedAsKnown();
        deep();
        stopped();
        clean();
        toldAsTheFirst();
        traceAtMost();
        sizes();
        sizesCut();
        marks();
        marksByTheDay();
        nearestBody();
        day();
        dayRefused();
        kind();
        kindRefused();
        as();
        asRefused();
        ask();
        askRefused();
        traceIsEmptied();
        trace();
        count();
        countRefused();
        status();
        statusAtFirst();
        Due.end();
    }

    /** Crate k is worth 100 * k + 7; they are told on day 10 as their names say; crate 0 is owed up to its worth. */
    private static PortRooms withKinds() {
        PortRooms x = new PortRooms(0);
        int[] owners = {0, 11, 2, 3, 14, 3};
        for (int k = 0; k < owners.length; k++) {
            x.crate(owners[k], 100 * k + 7);
        }
        x.pledge(OWED_IN_FULL, 9, 7, 3, 5);
        x.pledge(OWED, 9, 50, 3, 5);
        x.pledge(OWED, 9, 30, 3, 10);
        x.pledge(OWED, 9, 70000, 3, 11);
        x.pledge(DEEP, 9, 200, 3, 5);
        x.pledge(DEEP, 9, 13, 3, 10);
        x.pledge(STOPPED_AND_DEEP, 9, 9000, 3, 5);
        x.list(3, 10, 12);
        x.day(10);
        return x;
    }

    private static PortRooms withCrate(int owner, int worth) {
        PortRooms x = new PortRooms(0);
        x.crate(owner, worth);
        return x;
    }

    private static void kindsByTheDay() {
        Due.says(0, "KINDS of CRATES on THE DAY (0 at first): 0 CRATE;");
        PortRooms x = withCrate(0, 5);
        x.list(0, 0, 0);
        Due.due("day 0 at first", x.kind(0), STOPPED);
        Due.due("it was 0", x.day(1), 0);
        Due.due("another day", x.kind(0), CLEAN);
        Due.due("each is a crate", x.as(0, 0), 5);
        PortRooms y = withKinds();
        int[][] want = {{4, 4, 4, 4, 4, 4}, {1, 1, 1, 4, 4, 2}, {1, 1, 2, 3, 4, 3}, {1, 2, 2, 3, 4, 3}, {1, 2, 2, 4, 4, 2}};
        int[] days = {4, 9, 10, 11, 13};
        for (int d = 0; d < days.length; d++) {
            y.day(days[d]);
            for (int k = 0; k < 6; k++) {
                Due.due("crate " + k + " on day " + days[d], y.kind(k), want[d][k]);
            }
        }
    }

    private static void owedAsKnown() {
        Due.says(0, "1 OWED, a CRATE: it has a PLEDGE AS KNOWN that day (these alone are meant below, too);");
        PortRooms x = withCrate(0, 100);
        x.crate(0, 100);
        x.pledge(0, 0, 1, 3, 5);
        x.pledge(0, 0, 100, 3, 6);
        x.day(4);
        Due.due("not known yet", x.kind(0), CLEAN);
        x.day(5);
        Due.due("known", x.kind(0), OWED);
        Due.due("a sum that is not known is not meant", x.ask(0, 0), 99);
        Due.due("another crate", x.kind(1), CLEAN);
        x.day(6);
        Due.due("both sums", x.kind(0), DEEP);
        Due.due("both are meant", x.ask(0, 0), 0);
        x.day(9999);
        Due.due("the last day", x.kind(0), DEEP);
    }

    private static void deep() {
        Due.says(0, "2 DEEP, an OWED one: sums of its PLEDGES are more than its worth;");
        PortRooms x = withCrate(0, 1);
        x.pledge(0, 0, 1, 0, 0);
        Due.due("just its worth", x.kind(0), OWED);
        x.pledge(0, 0, 1, 0, 0);
        Due.due("1 more", x.kind(0), DEEP);
        PortRooms y = withCrate(0, 100000);
        for (int k = 0; k < 40; k++) {
            y.pledge(0, 0, 100000, 0, 0);
            Due.due("with " + (k + 1), y.kind(0), k == 0 ? OWED : DEEP);
        }
        Due.due("forty of the most", y.ask(0, 0), (100000 - 4000000) / 2);
        PortRooms z = withCrate(0, 10);
        z.crate(0, 10);
        z.pledge(0, 0, 6, 0, 0);
        z.pledge(1, 0, 6, 0, 0);
        Due.due("of its own pledges", z.kind(0), OWED);
    }

    private static void stopped() {
        Due.says(0, "3 STOPPED, a CRATE: it is BARRED;");
        PortRooms x = withCrate(10, 5);
        x.hold(0, 10, 50, 0);
        x.list(0, 3, 4);
        int[] want = {CLEAN, STOPPED, STOPPED, CLEAN};
        for (int k = 0; k < 4; k++) {
            x.day(2 + k);
            Due.due("day " + (2 + k), x.kind(0), want[k]);
            Due.due("as it is barred", x.barred(0, 2 + k), want[k] == STOPPED ? 1 : 0);
        }
        x.day(4);
        x.hold(0, 10, 49, 4);
        Due.due("490000", x.kind(0), CLEAN);
    }

    private static void clean() {
        Due.says(0, "4 CLEAN, a CRATE: neither OWED nor STOPPED.");
        PortRooms x = withKinds();
        Due.due("neither", x.kind(CLEAN), CLEAN);
        x.pledge(CLEAN, 0, 1, 10, 10);
        Due.due("owed", x.kind(CLEAN), OWED);
        Due.due("and not clean", x.as(CLEAN, 4), NOT_THAT_KIND);
        Due.due("stopped is not clean", x.as(STOPPED, 4), NOT_THAT_KIND);
    }

    private static void toldAsTheFirst() {
        Due.says(0, "It is told as the first that fits of STOPPED, DEEP, OWED, CLEAN: by this it is asked.");
        PortRooms x = withCrate(0, 10);
        x.list(0, 0, 0);
        x.pledge(0, 0, 5, 0, 0);
        Due.due("stopped ahead of owed", x.kind(0), STOPPED);
        x.pledge(0, 0, 6, 0, 0);
        Due.due("stopped ahead of deep", x.kind(0), STOPPED);
        Due.due("asked as stopped", x.ask(0, 0), -1000);
        x.day(1);
        Due.due("deep ahead of owed", x.kind(0), DEEP);
        Due.due("asked as deep", x.ask(0, 1), 100);
        PortRooms y = withCrate(0, 10);
        Due.due("clean is the last", y.kind(0), CLEAN);
    }

    private static void traceAtMost() {
        Due.says(0, "ASKS, by BODIES, each of which leaves its number in THE TRACE as it begins (the first 16):");
        PortRooms x = withKinds();
        x.ask(DEEP, 0);
        int[] want = {12, 11, 10};
        for (int i = 0; i < 20; i++) {
            Due.due("trace " + i, x.trace(i), i < 3 ? want[i] : NONE);
        }
        for (int k = 0; k < 9; k++) {
            x.ask(STOPPED, 0);
        }
        Due.due("asked nine times: the first", x.trace(0), 13);
        Due.due("asked nine times: the last", x.trace(2), 20);
        Due.due("asked nine times: none more", x.trace(3), NONE);
    }

    private static void asked(PortRooms x, int crate, int what, int want, int... trace) {
        String call = "crate " + crate + ", " + what;
        Due.due(call, x.ask(crate, what), want);
        for (int k = 0; k < trace.length; k++) {
            Due.due(call + ": trace " + k, x.trace(k), trace[k]);
        }
        Due.due(call + ": none behind", x.trace(trace.length), NONE);
    }

    private static void sizes() {
        Due.says(0, "0 SIZE: 10 lent to all CRATES: worth. 11 of OWED ones: what 10 gives, less all sums of its PLEDGES. "
            + "12 of DEEP ones: what 11 gives, by 2. 13 of STOPPED ones: 0 less MARK.");
        PortRooms x = withKinds();
        asked(x, OWED_IN_FULL, 0, 0, 11, 10);
        asked(x, OWED, 0, 107 - 80, 11, 10);
        asked(x, DEEP, 0, (207 - 213) / 2, 12, 11, 10);
        asked(x, STOPPED, 0, -1003, 13, 22, 20);
        asked(x, CLEAN, 0, 407, 10);
        asked(x, STOPPED_AND_DEEP, 0, -1003, 13, 22, 20);
    }

    private static void sizesCut() {
        Due.says(0, "12 of DEEP ones: what 11 gives, by 2.");
        PortRooms x = withCrate(0, 10);
        x.pledge(0, 1, 11, 0, 0);
        asked(x, 0, 0, 0, 12, 11, 10);
        x.pledge(0, 1, 2, 0, 0);
        asked(x, 0, 0, -1, 12, 11, 10);
        x.pledge(0, 1, 1, 0, 0);
        asked(x, 0, 0, -2, 12, 11, 10);
    }

    private static void marks() {
        Due.says(0, "1 MARK: 20 lent to all CRATES: its OWNER on THE DAY. 21 of OWED ones: what 20 gives, and 100. "
            + "22 of STOPPED ones: what 20 gives, and 1000. 23 of CLEAN ones: what 20 gives, and SIZE.");
        PortRooms x = withKinds();
        asked(x, OWED_IN_FULL, 1, 100, 21, 20);
        asked(x, OWED, 1, 11 + 100, 21, 20);
        asked(x, DEEP, 1, 2 + 100, 21, 20);
        asked(x, STOPPED, 1, 1003, 22, 20);
        asked(x, CLEAN, 1, 14 + 407, 23, 20, 10);
        asked(x, STOPPED_AND_DEEP, 1, 1003, 22, 20);
        PortRooms y = withCrate(19, 100000);
        asked(y, 0, 1, 100019, 23, 20, 10);
    }

    private static void marksByTheDay() {
        Due.says(0, "20 lent to all CRATES: its OWNER on THE DAY.");
        PortRooms x = withKinds();
        x.paper(CLEAN, 14, 15, 10, 10);
        asked(x, CLEAN, 1, 15 + 407, 23, 20, 10);
        x.paper(CLEAN, 15, 16, 10, 11);
        asked(x, CLEAN, 1, 15 + 407, 23, 20, 10);
        x.paper(OWED, 11, 12, 11, 11);
        asked(x, OWED, 1, 111, 21, 20);
        x.day(11);
        asked(x, OWED, 1, 112, 21, 20);
        asked(x, CLEAN, 1, 16 + 407, 23, 20, 10);
        x.day(9);
        asked(x, CLEAN, 1, 14 + 407, 23, 20, 10);
    }

    private static void nearestBody() {
        Due.says(0, "(Of an ask the BODY told for the KIND begins, else that of the nearest KIND that it is, too, "
            + "else the one that is lent; SIZE, MARK within others are asked of the same CRATE anew.)");
        PortRooms x = withKinds();
        asked(x, DEEP, 0, -3, 12, 11, 10);
        asked(x, DEEP, 1, 102, 21, 20);
        asked(x, CLEAN, 0, 407, 10);
        asked(x, STOPPED, 0, -1003, 13, 22, 20);
        asked(x, CLEAN, 1, 421, 23, 20, 10);
    }

    private static void day() {
        Due.says(33, "THE DAY: what it was.");
        PortRooms x = new PortRooms(0);
        Due.due("at first", x.day(9999), 0);
        Due.due("the last day", x.day(9999), 9999);
        Due.due("as it is", x.day(0), 9999);
        Due.due("the first day", x.day(5), 0);
    }

    private static void dayRefused() {
        Due.says(33, "BAD.");
        Due.range("day", 0, 9999, v -> new PortRooms(0).day(v));
        PortRooms x = new PortRooms(0);
        x.day(7);
        x.day(10000);
        x.day(-1);
        Due.due("it stays", x.day(0), 7);
    }

    private static void kind() {
        Due.says(34, "The KIND of a CRATE on THE DAY, as it is told (1 to 4).");
        PortRooms x = withKinds();
        int[] want = {1, 1, 2, 3, 4, 3};
        for (int k = 0; k < want.length; k++) {
            Due.due("crate " + k, x.kind(k), want[k]);
        }
    }

    private static void kindRefused() {
        Due.says(34, "BAD.");
        Due.range("crate", 0, 5, v -> withKinds().kind(v));
        Due.due("no crate yet", new PortRooms(0).kind(0), BAD);
    }

    private static void as() {
        Due.says(35, "A CRATE is taken as one of a KIND (0 .. 4): its worth.");
        PortRooms x = withKinds();
        for (int k = 0; k < 6; k++) {
            Due.due("crate " + k + " as a crate", x.as(k, 0), 100 * k + 7);
            Due.due("crate " + k + " as it is told", x.as(k, x.kind(k)), 100 * k + 7);
            Due.due("no finding", x.status(), 0);
        }
        Due.due("the most", withCrate(0, 100000).as(0, 4), 100000);
    }

    private static void asRefused() {
        Due.says(35, "BAD; KIND: it is no such one (each is a CRATE, DEEP ones are OWED, too).");
        PortRooms x = withKinds();
        boolean[][] is = {
            {true, true, false, false, false}, {true, true, false, false, false}, {true, true, true, false, false},
            {true, false, false, true, false}, {true, false, false, false, true}, {true, false, false, true, false}};
        for (int k = 0; k < is.length; k++) {
            for (int kind = 0; kind < 5; kind++) {
                Due.due("crate " + k + " as " + kind, x.as(k, kind), is[k][kind] ? 100 * k + 7 : NOT_THAT_KIND);
                Due.due("its status", x.status(), is[k][kind] ? 0 : 3);
            }
        }
        Due.range("crate", 0, 5, v -> withKinds().as(v, 0));
        Due.range("kind", 0, 4, v -> withKinds().as(0, v));
        Due.due("no crate yet", new PortRooms(0).as(0, 0), BAD);
        x.as(CLEAN, STOPPED);
        Due.due("BAD", x.as(6, STOPPED), BAD);
        Due.due("BAD leaves status", x.status(), 3);
    }

    private static void ask() {
        Due.says(36, "An ASK (0, 1) of a CRATE.");
        PortRooms x = withCrate(7, 30);
        Due.due("size", x.ask(0, 0), 30);
        Due.due("mark", x.ask(0, 1), 37);
        Due.due("size again", x.ask(0, 0), 30);
    }

    private static void askRefused() {
        Due.says(36, "BAD.");
        Due.range("crate", 0, 5, v -> withKinds().ask(v, 0));
        Due.range("what", 0, 1, v -> withKinds().ask(0, v));
        Due.due("no crate yet", new PortRooms(0).ask(0, 0), BAD);
        PortRooms x = withKinds();
        x.ask(DEEP, 0);
        x.ask(6, 0);
        x.ask(-1, 1);
        x.ask(0, 2);
        x.ask(0, -1);
        Due.due("refused asks leave the trace", x.trace(0), 12);
        Due.due("all of it", x.trace(2), 10);
    }

    private static void traceIsEmptied() {
        Due.says(36, "THE TRACE is empty ahead of it.");
        PortRooms x = withKinds();
        x.ask(DEEP, 0);
        x.ask(CLEAN, 0);
        Due.due("the new one's", x.trace(0), 10);
        Due.due("nothing of the old one's", x.trace(1), NONE);
        x.ask(CLEAN, 0);
        Due.due("asked again", x.trace(1), NONE);
    }

    private static void trace() {
        Due.says(37, "Number i of THE TRACE; NONE.");
        PortRooms x = withKinds();
        Due.due("no ask yet", x.trace(0), NONE);
        x.ask(DEEP, 0);
        Due.due("first", x.trace(0), 12);
        Due.due("last", x.trace(2), 10);
        Due.due("behind", x.trace(3), NONE);
        Due.due("below", x.trace(-1), NONE);
        Due.due("the sixteenth", x.trace(15), NONE);
        Due.due("the seventeenth", x.trace(16), NONE);
        Due.due("far", x.trace(Integer.MAX_VALUE), NONE);
        Due.due("far below", x.trace(Integer.MIN_VALUE), NONE);
        x.kind(CLEAN);
        x.as(CLEAN, 4);
        x.barred(CLEAN, 10);
        x.day(11);
        Due.due("other calls leave it", x.trace(2), 10);
    }

    private static void count() {
        Due.says(38, "How many: 0 SHEETS, 1 HOLDINGS, 2 CRATES, 3 PAPERS, 4 PLEDGES, 5 lines of DUTIES, 6 ACTS, 7 OPENED, "
            + "8 LISTS, 9 bytes on the tape.");
        PortRooms x = withCrate(0, 1);
        x.crate(0, 1);
        DutiesTest.feedText(x, "out part 1;");
        x.duties();
        for (int k = 0; k < 10; k++) {
            if (k < 3) {
                x.sheet(2 * k, 0, 0);
            }
            if (k < 4) {
                x.hold(0, 10, 1, 1);
            }
            if (k < 5) {
                x.paper(0, 0, 1, 0, 0);
            }
            if (k < 6) {
                x.pledge(0, 0, 1, 0, 0);
            }
            if (k < 7) {
                x.act(0, 0, 0, 0);
            }
            if (k < 8) {
                x.opened(0, 0, 1, 0);
            }
            if (k < 9) {
                x.list(0, 0, 0);
            }
            x.feed(0, 1);
        }
        int[] want = {3, 4, 2, 5, 6, 1, 7, 8, 9, 10};
        for (int what = 0; what < want.length; what++) {
            Due.due("count " + what, x.count(what), want[what]);
        }
        x.drop(0);
        x.duties();
        Due.due("a sheet less", x.count(0), 2);
        Due.due("an empty tape", x.count(9), 0);
        Due.due("lines stay behind a fault", x.count(5), 1);
    }

    private static void countRefused() {
        Due.says(38, "BAD.");
        Due.range("what", 0, 9, v -> new PortRooms(0).count(v));
    }

    private static void status() {
        Due.says(39, "Of the latest call with a SHEET, or as(), that was not BAD, STATE, FULL: the number of its FINDING;");
        PortRooms x = withCrate(0, 1);
        x.set(0, 0, 0);
        Due.due("NULL", x.status(), 1);
        x.set(8, 0, 0);
        x.copy(8, 0, 0, 0, 0);
        x.holds(0, 0, 16);
        x.as(0, 5);
        Due.due("BAD is none of its", x.status(), 1);
        Due.due("STATE", x.move(0, NONE), STATE);
        x.room(0, 0, 0);
        Due.due("FULL", x.move(0, 0), FULL);
        Due.due("STATE, FULL are none of its", x.status(), 1);
        x.hold(0, 10, 1, 0);
        x.hold(0, 10, 101, 0);
        x.truly(10, 0);
        x.count(0);
        x.kind(0);
        x.ask(0, 0);
        x.duties();
        x.status();
        Due.due("other calls leave it", x.status(), 1);
        x.sheet(0, 0, 1);
        x.set(0, 1, 0);
        Due.due("PLACE", x.status(), 2);
        x.as(0, 3);
        Due.due("KIND", x.status(), 3);
        x.sheet(0, 0, -5);
        Due.due("SIZE", x.status(), 4);
        x.sheet(1, 1, 1);
        x.copy(0, 0, 1, 0, 1);
        Due.due("STORE", x.status(), 5);
        x.holds(0, 0, 1);
        Due.due("PLACE of holds", x.status(), 2);
        x.drop(7);
        Due.due("NULL of drop", x.status(), 1);
    }

    private static void statusAtFirst() {
        Due.says(39, "0: it had none, or there was none.");
        PortRooms x = withCrate(0, 1);
        Due.due("there was none", x.status(), 0);
        x.sheet(8, 0, 0);
        Due.due("there was none but BAD", x.status(), 0);
        for (int call = 0; call < 6; call++) {
            x.sheet(0, 0, 4);
            x.sheet(0, 0, -1);
            Due.due("a finding", x.status(), 4);
            int answer = call == 0 ? x.sheet(1, 0, 0) : call == 1 ? x.set(0, 0, 0) : call == 2 ? x.copy(0, 0, 0, 0, 0)
                : call == 3 ? x.drop(0) : call == 4 ? x.holds(0, 0, 1) : x.as(0, 0);
            Due.due("call " + call + " has none", answer < 0 ? answer : x.status(), 0);
        }
    }
}
