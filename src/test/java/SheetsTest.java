/** Promises 1 to 5, and what the terms say of sheets: a new object, sheet, set, copy, drop. */
public final class SheetsTest {
    private static final int BAD = PortRooms.BAD, NULL = -1000011, PLACE = -1000012, SIZE = -1000014, STORE = -1000015;
    private static final int FAR = Integer.MAX_VALUE, FAR_BELOW = Integer.MIN_VALUE;

    public static void main(String[] args) {
        nothingIsTold();
        sheetsAtFirst();
        lanes();
        mostItems();
        itemsAtFirst();
        sheet();
        sheetInPlaceOfAnother();
        sheetRefused();
        set();
        setLowestBits();
        setRefused();
        copy();
        copyOnward();
        copyBackward();
        copyOfNone();
        copyRefused();
        copyPlaces();
        drop();
        dropRefused();
        Due.end();
    }

    /** What an item is (0 to 100), seen by a holding that is told from it; needs sheet 7, of the same lane, and day 0. */
    private static int item(PortRooms x, int sheet, int i) {
        x.set(7, 1, 10);
        x.copy(sheet, i, 7, 2, 1);
        x.holds(7, 0, 1);
        return x.percent(0, 10, 0);
    }

    private static PortRooms withSheets(int lane, int n) {
        PortRooms x = new PortRooms(0);
        x.sheet(0, lane, n);
        x.sheet(7, lane, 4);
        return x;
    }

    private static void nothingIsTold() {
        Due.says(1, "SEED; nothing else is told.");
        PortRooms x = new PortRooms(5);
        for (int what = 0; what <= 9; what++) {
            Due.due("count(" + what + ")", x.count(what), 0);
        }
        Due.due("status", x.status(), 0);
        Due.due("fault", x.fault(), 0);
        Due.due("trace", x.trace(0), PortRooms.NONE);
        Due.due("no crate", x.kind(0), BAD);
        Due.due("no lines, no tape", x.duties(), 0);
        Due.due("no rings", x.rings(9999), 0);
        Due.due("day", x.day(7), 0);
        Due.due("seed 1", new PortRooms(1).lot(0, 0, 1000000), 685753);
        Due.due("other seeds, other lots", new PortRooms(2).lot(0, 0, 1000000) == 685753 ? 1 : 0, 0);
        Due.due("an object is not another one", new PortRooms(5).sheet(0, 0, 3) + x.count(0), 3);
    }

    private static void sheetsAtFirst() {
        Due.says(0, "SHEETS 0 .. 7 are missing (at first),");
        PortRooms x = new PortRooms(5);
        for (int k = 0; k < 8; k++) {
            Due.due("drop " + k, x.drop(k), NULL);
        }
        Due.due("the eighth", x.drop(8), BAD);
        Due.due("below the first", x.drop(-1), BAD);
        for (int k = 0; k < 8; k++) {
            Due.due("sheet " + k, x.sheet(k, k % 3, k), k);
        }
        Due.due("all are there", x.count(0), 8);
    }

    private static void lanes() {
        Due.says(0, "or have a LANE (0 bytes, 1 shorts, 2 ints)");
        int[] kept = {-1, -257, -65793};
        for (int lane = 0; lane < 3; lane++) {
            Due.due("lane " + lane, withSheets(lane, 1).set(0, 0, -65793), kept[lane]);
        }
        Due.range("lane", 0, 2, v -> new PortRooms(0).sheet(0, v, 1));
    }

    private static void mostItems() {
        Due.says(0, "and 0 to 60 ITEMS,");
        Due.due("none", withSheets(0, 0).drop(0), 0);
        Due.due("none to set", withSheets(0, 0).set(0, 0, 1), PLACE);
        for (int lane = 0; lane < 3; lane++) {
            PortRooms x = withSheets(lane, 60);
            Due.due("the last of 60", x.set(0, 59, 44), 44);
            Due.due("is kept", item(x, 0, 59), 44);
            Due.due("the first of 60", item(x, 0, 0), 0);
            Due.due("none behind", x.set(0, 60, 44), PLACE);
        }
    }

    private static void itemsAtFirst() {
        Due.says(0, "0 at first.");
        PortRooms x = withSheets(2, 60);
        x.hold(0, 10, 7, 0);
        for (int k = 0; k < 60; k += 59) {
            Due.due("item " + k, item(x, 0, k), 0);
        }
        Due.due("owner, company, percentage, day of 0", x.holds(0, 0, 15), 0);
    }

    private static void sheet() {
        Due.says(2, "A SHEET of a LANE with n ITEMS,");
        PortRooms x = new PortRooms(0);
        Due.due("of one", x.sheet(3, 1, 1), 1);
        Due.due("its only item", x.set(3, 0, 32768), -32768);
        Due.due("none more", x.set(3, 1, 0), PLACE);
        Due.due("the least of all", x.sheet(0, 0, 0), 0);
        Due.due("the most of all", x.sheet(7, 2, 60), 60);
        Due.due("count", x.count(0), 3);
    }

    private static void sheetInPlaceOfAnother() {
        Due.says(2, "in place of what is there: n.");
        PortRooms x = withSheets(2, 8);
        x.set(0, 3, 44);
        Due.due("anew", x.sheet(0, 2, 8), 8);
        Due.due("its items are 0 again", item(x, 0, 3), 0);
        x.set(0, 3, 44);
        Due.due("a smaller one", x.sheet(0, 2, 2), 2);
        Due.due("has no more places", x.set(0, 2, 1), PLACE);
        Due.due("a greater one", x.sheet(0, 2, 60), 60);
        Due.due("has none of what was there", item(x, 0, 3), 0);
        Due.due("another lane", x.sheet(0, 0, 8), 8);
        Due.due("keeps fewer bits", x.set(0, 0, 300), 44);
        Due.due("still two sheets", x.count(0), 2);
        Due.due("a sheet of none", x.sheet(0, 2, 0), 0);
        Due.due("it is there", x.count(0), 2);
    }

    private static void sheetRefused() {
        Due.says(2, "BAD: SHEET, LANE, n above 60; SIZE.");
        Due.range("sheet", 0, 7, v -> new PortRooms(0).sheet(v, 0, 1));
        Due.range("lane", 0, 2, v -> new PortRooms(0).sheet(0, v, 1));
        PortRooms x = withSheets(2, 60);
        Due.due("61", x.sheet(0, 2, 61), BAD);
        Due.due("far more", x.sheet(0, 2, FAR), BAD);
        Due.due("no finding yet", x.status(), 0);
        Due.due("one fewer than none", x.sheet(0, 0, -1), SIZE);
        Due.due("its status", x.status(), 4);
        Due.due("far fewer", x.sheet(0, 0, FAR_BELOW), SIZE);
        Due.due("of one that is missing", x.sheet(1, 0, -1), SIZE);
        Due.due("it is still missing", x.drop(1), NULL);
        Due.due("what is there stays", x.set(0, 59, 70000), 70000);
        Due.due("BAD sheet ahead of SIZE", x.sheet(8, 0, -1), BAD);
        Due.due("BAD lane ahead of SIZE", x.sheet(0, 3, -1), BAD);
        Due.due("BAD leaves status", x.status(), 0);
    }

    private static void set() {
        Due.says(3, "ITEM i becomes v,");
        PortRooms x = withSheets(2, 60);
        Due.due("first", x.set(0, 0, 11), 11);
        Due.due("last", x.set(0, 59, 22), 22);
        Due.due("first, kept", item(x, 0, 0), 11);
        Due.due("last, kept", item(x, 0, 59), 22);
        Due.due("beside it, unmoved", item(x, 0, 1), 0);
        Due.due("anew", x.set(0, 0, 33), 33);
        Due.due("anew, kept", item(x, 0, 0), 33);
    }

    private static void setLowestBits() {
        Due.says(3, "its lowest bits, as many as the LANE has: what it is then.");
        int[][] values = {
            {127, 128, 255, 256, -128, -129, 0x12345678, FAR, FAR_BELOW},
            {32767, 32768, 65535, 65536, -32768, -32769, 0x12345678, FAR, FAR_BELOW},
            {32768, 65536, FAR, FAR_BELOW, -1, 0, 0x12345678, FAR - 1, FAR_BELOW + 1}};
        int[][] want = {
            {127, -128, -1, 0, -128, 127, 0x78, -1, 0},
            {32767, -32768, -1, 0, -32768, 32767, 0x5678, -1, 0},
            {32768, 65536, FAR, FAR_BELOW, -1, 0, 0x12345678, FAR - 1, FAR_BELOW + 1}};
        for (int lane = 0; lane < 3; lane++) {
            PortRooms x = withSheets(lane, 1);
            for (int k = 0; k < values[lane].length; k++) {
                Due.due("lane " + lane + ", " + values[lane][k], x.set(0, 0, values[lane][k]), want[lane][k]);
            }
        }
        PortRooms x = withSheets(0, 1);
        x.set(0, 0, 256 + 44);
        Due.due("what is kept is what was told", item(x, 0, 0), 44);
    }

    private static void setRefused() {
        Due.says(3, "BAD: SHEET; NULL; PLACE.");
        PortRooms x = withSheets(2, 3);
        Due.due("sheet 8", x.set(8, 0, 1), BAD);
        Due.due("sheet -1", x.set(-1, 0, 1), BAD);
        Due.due("sheet far", x.set(FAR, 0, 1), BAD);
        Due.due("sheet far below", x.set(FAR_BELOW, 0, 1), BAD);
        Due.due("missing", x.set(1, 0, 1), NULL);
        Due.due("its status", x.status(), 1);
        Due.due("NULL ahead of PLACE", x.set(1, -1, 1), NULL);
        Due.due("just behind the end", x.set(0, 3, 1), PLACE);
        Due.due("status of a place", x.status(), 2);
        Due.due("just ahead of the start", x.set(0, -1, 1), PLACE);
        Due.due("far", x.set(0, FAR, 1), PLACE);
        Due.due("far below", x.set(0, FAR_BELOW, 1), PLACE);
        Due.due("BAD leaves status", x.set(8, -1, 1) == BAD ? x.status() : -1, 2);
        Due.due("the last place", x.set(0, 2, 1), 1);
        Due.due("status is 0 again", x.status(), 0);
    }

    private static void copy() {
        Due.says(4, "n ITEMS of a from i on come to b from j on,");
        for (int lane = 0; lane < 3; lane++) {
            PortRooms x = withSheets(lane, 12);
            x.sheet(1, lane, 8);
            for (int k = 0; k < 12; k++) {
                x.set(0, k, 10 + k);
                x.set(1, k, 50 + k);
            }
            Due.due("some", x.copy(0, 3, 1, 5, 2), 2);
            Due.due("ahead of them", item(x, 1, 4), 54);
            Due.due("the first", item(x, 1, 5), 13);
            Due.due("the last", item(x, 1, 6), 14);
            Due.due("behind them", item(x, 1, 7), 57);
            Due.due("just to both ends", x.copy(0, 4, 1, 0, 8), 8);
            Due.due("the first of all", item(x, 1, 0), 14);
            Due.due("the last of all", item(x, 1, 7), 21);
            x.set(0, 11, 99);
            Due.due("sheets do not share items", item(x, 1, 7), 21);
        }
        PortRooms y = withSheets(2, 60);
        y.sheet(1, 2, 60);
        y.set(0, 59, 77);
        Due.due("all sixty", y.copy(0, 0, 1, 0, 60), 60);
        Due.due("the sixtieth", item(y, 1, 59), 77);
    }

    private static PortRooms withRow() {
        PortRooms x = withSheets(2, 6);
        for (int k = 0; k < 6; k++) {
            x.set(0, k, 10 + k);
        }
        return x;
    }

    private static void items(PortRooms x, int... want) {
        for (int k = 0; k < want.length; k++) {
            Due.due("item " + k, item(x, 0, k), want[k]);
        }
    }

    private static void copyOnward() {
        Due.says(4, "as they were ahead: n.");
        PortRooms x = withRow();
        Due.due("onward by one", x.copy(0, 0, 0, 1, 5), 5);
        items(x, 10, 10, 11, 12, 13, 14);
    }

    private static void copyBackward() {
        Due.says(4, "as they were ahead: n.");
        PortRooms x = withRow();
        Due.due("backward by two", x.copy(0, 2, 0, 0, 4), 4);
        items(x, 12, 13, 14, 15, 14, 15);
        Due.due("onto itself", x.copy(0, 0, 0, 0, 6), 6);
        items(x, 12, 13, 14, 15, 14, 15);
    }

    private static void copyOfNone() {
        Due.says(4, "n ITEMS of a from i on come to b from j on,");
        PortRooms x = withRow();
        Due.due("none", x.copy(0, 0, 0, 3, 0), 0);
        Due.due("none at both ends", x.copy(0, 6, 0, 6, 0), 0);
        items(x, 10, 11, 12, 13, 14, 15);
        x.sheet(1, 2, 0);
        Due.due("none of none", x.copy(1, 0, 1, 0, 0), 0);
    }

    private static void copyRefused() {
        Due.says(4, "BAD: SHEETS; NULL; STORE;");
        PortRooms x = withSheets(2, 12);
        x.sheet(1, 1, 8);
        x.sheet(2, 0, 8);
        for (int none : new int[] {-1, 8, FAR, FAR_BELOW}) {
            Due.due("sheet " + none, x.copy(none, 0, 0, 0, 1), BAD);
            Due.due("other sheet " + none, x.copy(0, 0, none, 0, 1), BAD);
            Due.due("BAD ahead of NULL " + none, x.copy(3, 0, none, 0, 1), BAD);
            Due.due("BAD ahead of PLACE " + none, x.copy(none, -1, 0, 0, 1), BAD);
        }
        Due.due("BAD leaves status", x.status(), 0);
        Due.due("missing", x.copy(3, 0, 0, 0, 1), NULL);
        Due.due("other missing", x.copy(0, 0, 3, 0, 1), NULL);
        Due.due("both missing", x.copy(3, 0, 3, 0, 0), NULL);
        Due.due("its status", x.status(), 1);
        Due.due("NULL ahead of PLACE", x.copy(0, -1, 3, 0, 1), NULL);
        Due.due("two lanes", x.copy(0, 0, 1, 0, 1), STORE);
        Due.due("its status", x.status(), 5);
        Due.due("two lanes, the other way", x.copy(1, 0, 0, 0, 1), STORE);
        Due.due("two other lanes", x.copy(1, 0, 2, 0, 1), STORE);
        Due.due("two lanes, none to copy", x.copy(0, 0, 1, 0, 0), STORE);
        Due.due("STORE ahead of PLACE", x.copy(0, -1, 1, 0, 1), STORE);
        Due.due("STORE ahead of PLACE, n", x.copy(0, 0, 1, 0, -1), STORE);
        Due.due("one lane", x.copy(0, 0, 7, 0, 4), 4);
        Due.due("status is 0 again", x.status(), 0);
    }

    private static void copyPlaces() {
        Due.says(4, "PLACE (i, j, n below 0, or beyond an end).");
        PortRooms x = withSheets(2, 12);
        x.sheet(1, 2, 8);
        Due.due("i below 0", x.copy(0, -1, 1, 0, 1), PLACE);
        Due.due("its status", x.status(), 2);
        Due.due("j below 0", x.copy(0, 0, 1, -1, 1), PLACE);
        Due.due("n below 0", x.copy(0, 0, 1, 0, -1), PLACE);
        Due.due("n below 0 from the end", x.copy(0, 12, 1, 8, -1), PLACE);
        Due.due("none, i below 0", x.copy(0, -1, 1, 0, 0), PLACE);
        Due.due("none, j below 0", x.copy(0, 0, 1, -1, 0), PLACE);
        Due.due("one beyond a's end", x.copy(0, 5, 1, 0, 8), PLACE);
        Due.due("one beyond b's end", x.copy(0, 0, 1, 1, 8), PLACE);
        Due.due("none, i beyond a's end", x.copy(0, 13, 1, 0, 0), PLACE);
        Due.due("none, j beyond b's end", x.copy(0, 0, 1, 9, 0), PLACE);
        Due.due("all far: sums run over", x.copy(0, FAR, 1, FAR, FAR), PLACE);
        Due.due("i and n run over to 0", x.copy(0, FAR, 1, 0, 1), PLACE);
        Due.due("j and n run over to 0", x.copy(0, 0, 1, FAR, 1), PLACE);
        Due.due("n far", x.copy(0, 0, 1, 0, FAR), PLACE);
        Due.due("n far and i one", x.copy(0, 1, 1, 1, FAR), PLACE);
        Due.due("all far below", x.copy(0, FAR_BELOW, 1, FAR_BELOW, FAR_BELOW), PLACE);
        Due.due("i far below", x.copy(0, FAR_BELOW, 1, 0, FAR), PLACE);
        Due.due("n far below", x.copy(0, 0, 1, 0, FAR_BELOW), PLACE);
    }

    private static void drop() {
        Due.says(5, "A SHEET is missing from now on: how many ITEMS it had.");
        PortRooms x = withSheets(1, 17);
        x.set(0, 3, 44);
        Due.due("had", x.drop(0), 17);
        Due.due("count", x.count(0), 1);
        Due.due("set finds none", x.set(0, 0, 1), NULL);
        Due.due("copy finds none", x.copy(0, 0, 7, 0, 1), NULL);
        Due.due("copy to it finds none", x.copy(7, 0, 0, 0, 1), NULL);
        Due.due("holds finds none", x.holds(0, 0, 1), NULL);
        x.sheet(0, 1, 5);
        Due.due("a new one has nothing of it", item(x, 0, 3), 0);
        x.sheet(2, 1, 0);
        Due.due("a sheet of none is there", x.drop(2), 0);
        x.sheet(2, 1, 60);
        Due.due("a sheet of sixty", x.drop(2), 60);
    }

    private static void dropRefused() {
        Due.says(5, "BAD; NULL.");
        PortRooms x = withSheets(1, 17);
        for (int none : new int[] {-1, 8, FAR, FAR_BELOW}) {
            Due.due("sheet " + none, x.drop(none), BAD);
        }
        Due.due("BAD leaves status", x.status(), 0);
        Due.due("missing", x.drop(5), NULL);
        Due.due("its status", x.status(), 1);
        Due.due("there", x.drop(0), 17);
        Due.due("status is 0 again", x.status(), 0);
        Due.due("twice", x.drop(0), NULL);
    }
}
