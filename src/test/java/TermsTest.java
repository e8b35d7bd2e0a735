/** What the terms say of all calls: how many, numbers, what is divided, the order of refusals, days. */
public final class TermsTest {
    private static final int BAD = PortRooms.BAD, NONE = PortRooms.NONE, STATE = PortRooms.STATE, FULL = PortRooms.FULL;

    public static void main(String[] args) {
        fullHouse();
        numbersGoFrom0();
        cutTowards0();
        badIsFirst();
        stateIsAheadOfFull();
        badIsAheadOfFindings();
        firstInTime();
        findings();
        daysOfTelling();
        daysOfAsking();
        Due.end();
    }

    /** All that may be told is told, and the 512th call still answers. */
    private static void fullHouse() {
        Due.says(0, "An object is used for at most 512 calls after it has been made;");
        PortRooms x = new PortRooms(0);
        int calls = 0;
        for (int k = 0; k < 12; k++, calls++) {
            Due.due("crate", x.crate(10, 100000), k);
        }
        for (int k = 0; k < 40; k++, calls += 3) {
            int[] rows = OwnersTest.MANY_ROWS;
            Due.due("hold", x.hold(rows[2 * k] == 10 ? 0 : 10 + rows[2 * k], 10 + rows[2 * k + 1], 100, k), k + 1);
            Due.due("paper", x.paper(k % 12, 10, 11, 9999 - k, 9999), k + 1);
            Due.due("pledge", x.pledge(k % 12, 9, 100000, 9999 - k, 9999), k);
        }
        for (int k = 0; k < 60; k++, calls += 2) {
            Due.due("act", x.act(k % 12, 3, 9999 - k, 999), k + 1);
            Due.due("opened", x.opened(k % 12, 9999 - k, 100000 - k, 255), k + 1);
        }
        for (int k = 0; k < 20; k++, calls++) {
            Due.due("list", x.list(k % 10, 0, 9999), k + 1);
        }
        for (int k = 0; k < 8; k++, calls++) {
            Due.due("sheet", x.sheet(k, k % 3, 60), 60);
        }
        for (int k = 0; k < 38; k++, calls++) {
            Due.due("feed", x.feed(0x2020202020202020L, k < 37 ? 8 : 4), k < 37 ? 8 * k + 8 : 300);
        }
        Due.due("day", x.day(9998), 0);
        calls++;
        for (int c = 0; c < 12; c++, calls += 10) {
            Due.due("share", x.share(0, 10, 9999), 2000000000);
            Due.due("barred", x.barred(c, 9998), 1);
            Due.due("kind", x.kind(c), 3);
            Due.due("truly", x.truly(10, 9999), 0);
            Due.due("quarrels", x.quarrels(c, 9999), c < 4 ? 3 : 2);
            Due.due("rank", x.rank(c, 9999, 1, 1, 1), 0);
            Due.due("duty", x.duty(c, 0), 0);
            Due.due("verdict", x.verdict(c), 1);
            Due.due("ask", x.ask(c, 0), -1010);
            Due.due("owner", x.owner(c, 9999, 9999), 11);
        }
        for (; calls < 511; calls++) {
            Due.due("count", x.count(calls % 9), new int[] {8, 40, 12, 40, 40, 0, 60, 60, 20}[calls % 9]);
        }
        Due.due("the 512th", x.duties(), 0);
    }

    private static void numbersGoFrom0() {
        Due.says(0, "Numbers go from 0 on.");
        PortRooms x = new PortRooms(0);
        Due.due("of crates", x.crate(0, 10), 0);
        Due.due("of pledges", x.pledge(0, 0, 1, 0, 0), 0);
        Due.due("of ranks", x.rank(0, 0, 0, 0, 0), 0);
        x.ask(0, 0);
        Due.due("of the trace", x.trace(0), 11);
        x.sheet(0, 0, 1);
        Due.due("of sheets and items", x.set(0, 0, 5), 5);
        Due.due("of rooms", x.move(0, 0), NONE);
        x.act(0, 0, 0, 0);
        DutiesTest.feedText(x, "sold part 1;");
        x.duties();
        Due.due("of lines", x.duty(0, 2), 0);
        Due.due("of days", x.duty(0, 1), 0);
        DutiesTest.feedText(x, ";");
        Due.due("of bytes", x.duties(), -1000100);
    }

    private static void cutTowards0() {
        Due.says(0, "All that is divided is cut towards 0.");
        PortRooms x = new PortRooms(0);
        x.crate(0, 199);
        x.act(0, 0, 0, 0);
        DutiesTest.feedText(x, "sold part 1;");
        x.duties();
        Due.due("a duty of 1.99", x.duty(0, 0), 1);
        x.hold(0, 10, 1, 0);
        x.hold(10, 11, 1, 0);
        x.hold(11, 12, 19, 0);
        x.hold(12, 13, 10, 0);
        Due.due("a share of 19", x.share(0, 12, 0), 19);
        Due.due("a share of 1.9", x.share(0, 13, 0), 1);
        x.pledge(0, 0, 202, 0, 0);
        Due.due("a size of -1.5", x.ask(0, 0), -1);
    }

    private static PortRooms full() {
        PortRooms x = new PortRooms(0);
        for (int k = 0; k < 12; k++) {
            x.crate(0, 1);
        }
        for (int k = 0; k < 60; k++) {
            x.hold(0, 10, 1, 0);
            x.paper(0, 0, 1, 0, 0);
            x.pledge(0, 0, 1, 0, 0);
            x.act(0, 0, 0, 0);
            x.opened(0, 0, 1, 0);
            x.list(0, 0, 0);
            x.feed(0, 5);
        }
        return x;
    }

    private static void badIsFirst() {
        Due.says(0, "Refusals are answers, the first of these that fits: "
            + "BAD (a number is not as told; there is no such thing),");
        PortRooms x = full();
        Due.due("hold", x.hold(0, 9, 1, 0), BAD);
        Due.due("crate", x.crate(0, 0), BAD);
        Due.due("paper", x.paper(12, 0, 1, 0, 0), BAD);
        Due.due("pledge", x.pledge(12, 0, 1, 0, 0), BAD);
        Due.due("act", x.act(12, 0, 0, 0), BAD);
        Due.due("opened", x.opened(12, 0, 1, 0), BAD);
        Due.due("list", x.list(10, 0, 0), BAD);
        Due.due("feed", x.feed(0, 9), BAD);
        Due.due("move, a crate that would be there", x.move(12, NONE), BAD);
        x.room(0, 0, 0);
        Due.due("move, to a room without air", x.move(12, 0), BAD);
    }

    private static void stateIsAheadOfFull() {
        Due.says(0, "STATE (as told), FULL (as told),");
        PortRooms x = full();
        x.move(0, 0);
        x.room(0, 0, 0);
        x.room(0, 1, 0);
        Due.due("STATE", x.move(0, 0), STATE);
        Due.due("FULL", x.move(1, 0), FULL);
        Due.due("hold", x.hold(0, 10, 1, 0), FULL);
        Due.due("crate", x.crate(0, 1), FULL);
        Due.due("paper", x.paper(0, 0, 1, 0, 0), FULL);
        Due.due("pledge", x.pledge(0, 0, 1, 0, 0), FULL);
        Due.due("act", x.act(0, 0, 0, 0), FULL);
        Due.due("opened", x.opened(0, 0, 1, 0), FULL);
        Due.due("list", x.list(0, 0, 0), FULL);
        Due.due("feed", x.feed(0, 1), FULL);
    }

    private static void badIsAheadOfFindings() {
        Due.says(0, "then FINDINGS,");
        PortRooms x = new PortRooms(0);
        x.crate(0, 1);
        Due.due("sheet", x.sheet(8, 0, -1), BAD);
        Due.due("set", x.set(8, -1, 0), BAD);
        Due.due("copy", x.copy(0, -1, 8, 0, 0), BAD);
        Due.due("drop", x.drop(8), BAD);
        Due.due("holds", x.holds(0, -1, 16), BAD);
        Due.due("as", x.as(0, 5), BAD);
        Due.due("as of no crate", x.as(1, 3), BAD);
        Due.due("nothing was found", x.status(), 0);
    }

    private static void firstInTime() {
        Due.says(0, "of several the first in time:");
        PortRooms x = new PortRooms(0);
        x.sheet(0, 0, 4);
        x.sheet(1, 1, 4);
        Due.due("NULL, PLACE of set", x.set(7, -1, 0), -1000011);
        Due.due("NULL, PLACE of copy", x.copy(7, -1, 0, 0, 1), -1000011);
        Due.due("NULL, PLACE of copy, the other", x.copy(0, -1, 7, 0, 1), -1000011);
        Due.due("STORE, PLACE of copy", x.copy(0, 5, 1, 5, 1), -1000015);
        Due.due("NULL, PLACE of holds", x.holds(7, -1, 1), -1000011);
    }

    private static void findings() {
        Due.says(0, "-1000010 less 1 NULL (a SHEET that is missing), 2 PLACE (no such place of a SHEET), "
            + "3 KIND (a CRATE that is not that), 4 SIZE (fewer than none), 5 STORE (SHEETS of two LANES).");
        PortRooms x = new PortRooms(0);
        x.crate(0, 1);
        x.sheet(0, 0, 1);
        x.sheet(1, 1, 1);
        Due.due("NULL", x.set(2, 0, 0), -1000011);
        Due.due("NULL's number", x.status(), 1);
        Due.due("PLACE", x.set(0, 1, 0), -1000012);
        Due.due("PLACE's number", x.status(), 2);
        Due.due("KIND", x.as(0, 1), -1000013);
        Due.due("KIND's number", x.status(), 3);
        Due.due("SIZE", x.sheet(0, 0, -1), -1000014);
        Due.due("SIZE's number", x.status(), 4);
        Due.due("STORE", x.copy(0, 0, 1, 0, 1), -1000015);
        Due.due("STORE's number", x.status(), 5);
    }

    private static PortRooms one() {
        PortRooms x = new PortRooms(0);
        x.crate(0, 1);
        return x;
    }

    private static void daysOfTelling() {
        Due.says(0, "Days are 0 to 9999.");
        Due.range("hold", 0, 9999, v -> one().hold(0, 10, 1, v));
        Due.range("paper, said and filed", 0, 9999, v -> one().paper(0, 0, 1, v, v));
        Due.range("pledge, said and filed", 0, 9999, v -> one().pledge(0, 0, 1, v, v));
        Due.range("act", 0, 9999, v -> one().act(0, 0, v, 0));
        Due.range("opened", 0, 9999, v -> one().opened(0, v, 1, 0));
        Due.range("list, from and to", 0, 9999, v -> one().list(0, v, v));
        Due.range("day", 0, 9999, v -> one().day(v));
        PortRooms x = one();
        x.sheet(0, 2, 8);
        for (int k = 0; k < 8; k++) {
            x.set(0, k, new int[] {0, 10, 5, 9999, 0, 10, 5, 10000}[k]);
        }
        Due.due("holds", x.holds(0, 0, 2), 1);
    }

    private static void daysOfAsking() {
        Due.says(0, "Days are 0 to 9999.");
        Due.range("percent", 0, 9999, v -> one().percent(0, 10, v));
        Due.range("share", 0, 9999, v -> one().share(0, 0, v));
        Due.range("truly", 0, 9999, v -> one().truly(0, v));
        Due.range("rings", 0, 9999, v -> one().rings(v));
        Due.range("owner", 0, 9999, v -> one().owner(0, v, 0));
        Due.range("owner as known", 0, 9999, v -> one().owner(0, 0, v));
        Due.range("quarrels", 0, 9999, v -> one().quarrels(0, v));
        Due.range("rank", 0, 9999, v -> one().rank(0, v, 0, 0, 0));
        Due.range("lot", 0, 9999, v -> one().lot(0, v, 1));
        Due.range("drawn", 0, 9999, v -> one().drawn(v, 1));
        Due.range("often", 0, 9999, v -> one().often(0, v, v, 1));
        Due.range("barred", 0, 9999, v -> one().barred(0, v));
    }
}
