import java.util.ArrayList;
import java.util.Arrays;
import java.util.List;

/** Each refused call, and each finding, on an object where much is told: all that can be seen stays, but for status(). */
public final class RefusedTest {
    private static final int BAD = PortRooms.BAD, STATE = PortRooms.STATE, FULL = PortRooms.FULL;
    private static final int NONE = PortRooms.NONE, FINDINGS = -1000010;
    private static final int FAR = Integer.MAX_VALUE, FAR_BELOW = Integer.MIN_VALUE;

    private interface Call {
        int on(PortRooms x);
    }

    private final String name;
    private final boolean isFull;
    private final List<Integer> before;

    private RefusedTest(String name, boolean isFull) {
        this.name = name;
        this.isFull = isFull;
        before = seen(told());
    }

    public static void main(String[] args) {
        Due.says(0, "What is refused, or found, changes nothing but status().");
        RefusedTest much = new RefusedTest("much is told", false);
        much.sheets();
        much.owners();
        much.crates();
        much.duties();
        much.rooms();
        much.looks();
        much.asked();
        much.findings();
        new RefusedTest("all is told", true).full();
        Due.end();
    }

    private PortRooms told() {
        PortRooms x = new PortRooms(11);
        tellCrates(x, isFull ? 12 : 5);
        tellMore(x, isFull ? 60 : 6);
        DutiesTest.feedText(x, "out part 101;");
        x.duties();
        DutiesTest.feedText(x, "sold part 10; out > 2 part 20;");
        x.duties();
        DutiesTest.feedText(x, isFull ? " ".repeat(288) + "out part 12;" : "out part 1;");
        x.room(2, 0, 1);
        x.room(3, 1, 0);
        x.move(0, 1);
        x.move(1, 2);
        x.move(2, 5);
        x.day(7);
        x.ask(1, 0);
        tellSheets(x);
        return x;
    }

    private static void tellCrates(PortRooms x, int n) {
        for (int k = 0; k < n; k++) {
            x.crate(3 * k % 20, 100 + k);
        }
    }

    /** What is told more often than it may be is refused, so each is told as often as it can be, or n times. */
    private static void tellMore(PortRooms x, int n) {
        for (int k = 0; k < n; k++) {
            if (k < 40) {
                x.hold(k % 10, 10 + k % 3, 30 + k, k % 9);
                x.paper(k % 5, 3 * (k % 5), 19, 2 + k % 4, 6);
                x.pledge(k % 3, k % 10, 20 + k, k % 5, 5 + k % 4);
            }
            if (k < 20) {
                x.list(k % 10, k, k + 3);
            }
            x.act(k % 5, k % 4, 9 + k, k % 5);
            x.opened(k % 5, 50 - k % 50, 500 + 7 * k, 255 - k);
        }
    }

    private static void tellSheets(PortRooms x) {
        int[][] items = {{4, 14, 40, 3}, {5, 14, 41, 3, 6}, {7, 14, 42, 3}};
        for (int k = 0; k < 3; k++) {
            x.sheet(k, k, items[k].length);
            for (int i = 0; i < items[k].length; i++) {
                x.set(k, i, items[k][i]);
            }
        }
    }

    /** What calls answer that tell of all that is held; the last of them change it. */
    private List<Integer> seen(PortRooms x) {
        List<Integer> all = new ArrayList<>();
        for (int what = 0; what < 10; what++) {
            all.add(x.count(what));
        }
        for (int i = 0; i < 4; i++) {
            all.add(x.trace(i));
        }
        int crates = isFull ? 3 : 5;
        for (int c = 0; c < crates; c++) {
            all.addAll(List.of(x.owner(c, 9999, 9999), x.quarrels(c, 9999), x.duty(c, 0), x.duty(c, 1), x.verdict(c)));
            all.addAll(List.of(x.kind(c), x.barred(c, 6), x.rank(c, 9999, 2, 0, 0), x.rank(c, 9999, 2, 1, 1)));
        }
        for (int room = 0; room < 6; room++) {
            all.addAll(List.of(x.inside(room, 2), x.room(room, 0, 0), x.room(room, 1, 0)));
        }
        for (int p = 0; p < 10; p++) {
            all.add(x.share(p, 10 + p % 3, 9999));
        }
        all.addAll(List.of(x.drawn(3, 1), x.lot(3, 3, 1000), x.fault(), x.duties(), x.fault(), x.day(0)));
        for (int k = 0; k < 3; k++) {
            all.add(x.holds(k, 0, 1));
            all.add(x.percent(new int[] {4, 5, 7}[k], 14, 3));
        }
        for (int k = 0; k < 8; k++) {
            all.add(x.drop(k));
        }
        return all;
    }

    private void refused(String call, int want, Call made) {
        PortRooms x = told();
        Due.due(name + ": " + call, made.on(x), want);
        Due.due(name + ": status behind " + call, x.status(), want < FINDINGS ? FINDINGS - want : 0);
        List<Integer> after = seen(x);
        if (!after.equals(before)) {
            Due.fails(name + ": " + call + " changes " + before + " to " + after);
        }
    }

    private void bad(String call, Call... made) {
        for (int k = 0; k < made.length; k++) {
            refused(call + ", way " + k, BAD, made[k]);
        }
    }

    private void sheets() {
        bad("sheet", x -> x.sheet(-1, 0, 1), x -> x.sheet(8, 0, 1), x -> x.sheet(0, -1, 1), x -> x.sheet(0, 3, 1),
            x -> x.sheet(0, 0, 61), x -> x.sheet(3, 0, FAR));
        bad("set", x -> x.set(-1, 0, 1), x -> x.set(8, 0, 1), x -> x.set(FAR_BELOW, 0, 1));
        bad("copy", x -> x.copy(-1, 0, 0, 0, 1), x -> x.copy(0, 0, 8, 0, 1), x -> x.copy(FAR, 0, FAR, 0, 1));
        bad("drop", x -> x.drop(-1), x -> x.drop(8), x -> x.drop(FAR));
    }

    private void findings() {
        int nothing = FINDINGS - 1, place = FINDINGS - 2, kind = FINDINGS - 3, size = FINDINGS - 4, store = FINDINGS - 5;
        refused("sheet below none", size, x -> x.sheet(0, 2, -1));
        refused("a missing sheet below none", size, x -> x.sheet(6, 2, FAR_BELOW));
        refused("set, missing", nothing, x -> x.set(6, 0, 1));
        refused("set, below", place, x -> x.set(0, -1, 99));
        refused("set, behind", place, x -> x.set(0, 4, 99));
        refused("copy, missing", nothing, x -> x.copy(6, 0, 0, 0, 1));
        refused("copy to one that is missing", nothing, x -> x.copy(0, 0, 6, 0, 1));
        refused("copy, lanes", store, x -> x.copy(0, 0, 1, 0, 1));
        refused("copy, part of it beyond the end", place, x -> x.copy(0, 1, 0, 0, 4));
        refused("copy, part of it beyond the other end", place, x -> x.copy(1, 0, 1, 2, 4));
        refused("copy, ahead of the start", place, x -> x.copy(0, 0, 0, -1, 2));
        refused("drop, missing", nothing, x -> x.drop(6));
        refused("holds, missing", nothing, x -> x.holds(6, 0, 1));
        refused("holds, the second beyond the end", place, x -> x.holds(0, 0, 2));
        refused("holds, below", place, x -> x.holds(0, -4, 2));
        refused("as", kind, x -> x.as(0, 4));
    }

    private void owners() {
        bad("hold", x -> x.hold(-1, 10, 1, 0), x -> x.hold(20, 10, 1, 0), x -> x.hold(0, 9, 1, 0), x -> x.hold(0, 20, 1, 0),
            x -> x.hold(10, 10, 1, 0), x -> x.hold(0, 10, -1, 0), x -> x.hold(0, 10, 101, 0), x -> x.hold(0, 10, 1, -1),
            x -> x.hold(0, 10, 1, 10000));
        bad("holds", x -> x.holds(-1, 0, 1), x -> x.holds(8, 0, 1), x -> x.holds(0, 0, 0), x -> x.holds(0, 0, 16));
        bad("percent", x -> x.percent(20, 10, 0), x -> x.percent(0, 9, 0), x -> x.percent(10, 10, 0),
            x -> x.percent(0, 10, -1));
        bad("share", x -> x.share(10, 10, 0), x -> x.share(0, 20, 0), x -> x.share(0, 10, 10000));
        bad("truly", x -> x.truly(20, 0), x -> x.truly(0, 10000));
        bad("rings", x -> x.rings(-1), x -> x.rings(10000));
    }

    private void crates() {
        bad("crate", x -> x.crate(-1, 1), x -> x.crate(20, 1), x -> x.crate(0, 0), x -> x.crate(0, 100001));
        bad("paper", x -> x.paper(5, 0, 1, 0, 0), x -> x.paper(-1, 0, 1, 0, 0), x -> x.paper(0, 20, 1, 0, 0),
            x -> x.paper(0, 0, 20, 0, 0), x -> x.paper(0, 1, 1, 0, 0), x -> x.paper(0, 0, 1, 1, 0),
            x -> x.paper(0, 0, 1, -1, 0), x -> x.paper(0, 0, 1, 0, 10000));
        bad("owner", x -> x.owner(5, 0, 0), x -> x.owner(0, -1, 0), x -> x.owner(0, 0, 10000));
        bad("quarrels", x -> x.quarrels(5, 0), x -> x.quarrels(0, 10000));
        bad("pledge", x -> x.pledge(5, 0, 1, 0, 0), x -> x.pledge(0, 10, 1, 0, 0), x -> x.pledge(0, 0, 0, 0, 0),
            x -> x.pledge(0, 0, 100001, 0, 0), x -> x.pledge(0, 0, 1, 1, 0), x -> x.pledge(0, 0, 1, 0, 10000));
        bad("rank", x -> x.rank(5, 0, 0, 0, 0), x -> x.rank(0, -1, 0, 0, 0), x -> x.rank(0, 0, 4, 0, 0),
            x -> x.rank(0, 0, 0, -1, 0), x -> x.rank(0, 0, 0, 0, 2));
    }

    private void duties() {
        bad("feed", x -> x.feed(59, 0), x -> x.feed(59, 9), x -> x.feed(59, -1), x -> x.feed(59, FAR));
        bad("act", x -> x.act(5, 0, 0, 0), x -> x.act(0, 4, 0, 0), x -> x.act(0, 0, 10000, 0), x -> x.act(0, 0, 0, 1000),
            x -> x.act(0, 0, 0, -1));
        bad("duty", x -> x.duty(5, 0), x -> x.duty(0, 3), x -> x.duty(0, -1));
    }

    private void rooms() {
        bad("room", x -> x.room(6, 0, 0), x -> x.room(-1, 0, 0), x -> x.room(0, 2, 0), x -> x.room(0, 0, 13),
            x -> x.room(0, 0, -1), x -> x.room(0, 1, 1000001), x -> x.room(0, 1, -1));
        bad("move", x -> x.move(5, 0), x -> x.move(-1, NONE), x -> x.move(0, 6), x -> x.move(0, -1),
            x -> x.move(0, NONE + 1));
        refused("move to where it is", STATE, x -> x.move(0, 1));
        refused("move to none from none", STATE, x -> x.move(3, NONE));
        refused("move to where no air is", FULL, x -> x.move(0, 2));
        refused("move to where nothing is insured", FULL, x -> x.move(0, 3));
        bad("inside", x -> x.inside(6, 0), x -> x.inside(NONE, 0), x -> x.inside(0, 3));
    }

    private void looks() {
        bad("lot", x -> x.lot(12, 0, 1), x -> x.lot(0, -1, 1), x -> x.lot(0, 0, 0), x -> x.lot(0, 0, 1000001));
        bad("drawn", x -> x.drawn(10000, 1), x -> x.drawn(0, 13), x -> x.drawn(0, -1));
        bad("often", x -> x.often(5, 0, 0, 1), x -> x.often(0, 1, 0, 1), x -> x.often(0, 0, 400, 1),
            x -> x.often(0, 0, 0, 13));
        bad("opened", x -> x.opened(5, 0, 1, 0), x -> x.opened(0, 10000, 1, 0), x -> x.opened(0, 0, 0, 0),
            x -> x.opened(0, 0, 100001, 0), x -> x.opened(0, 0, 1, 256), x -> x.opened(0, 0, 1, -1));
        bad("verdict", x -> x.verdict(5), x -> x.verdict(-1));
        bad("list", x -> x.list(10, 0, 0), x -> x.list(-1, 0, 0), x -> x.list(0, 1, 0), x -> x.list(0, 0, 10000));
        bad("barred", x -> x.barred(5, 0), x -> x.barred(0, 10000));
    }

    private void asked() {
        bad("day", x -> x.day(-1), x -> x.day(10000), x -> x.day(FAR));
        bad("kind", x -> x.kind(5), x -> x.kind(-1));
        bad("as", x -> x.as(5, 0), x -> x.as(0, 5), x -> x.as(0, -1));
        bad("ask", x -> x.ask(5, 0), x -> x.ask(0, 2), x -> x.ask(0, -1), x -> x.ask(-1, 1));
        bad("count", x -> x.count(10), x -> x.count(-1));
        refused("trace", NONE, x -> x.trace(3));
    }

    private void full() {
        Due.due("all of it is told", before.subList(1, 5).equals(Arrays.asList(40, 12, 40, 40)) ? 1 : 0, 1);
        refused("hold", FULL, x -> x.hold(9, 19, 100, 0));
        refused("crate", FULL, x -> x.crate(0, 1));
        refused("paper", FULL, x -> x.paper(0, 0, 1, 0, 0));
        refused("pledge", FULL, x -> x.pledge(0, 0, 100000, 0, 0));
        refused("act", FULL, x -> x.act(0, 0, 0, 999));
        refused("opened", FULL, x -> x.opened(0, 0, 100000, 0));
        refused("list", FULL, x -> x.list(0, 0, 9999));
        refused("feed", FULL, x -> x.feed(';', 1));
        bad("hold", x -> x.hold(0, 10, 101, 0));
        bad("crate", x -> x.crate(0, 0));
        bad("feed", x -> x.feed(';', 9));
    }
}
