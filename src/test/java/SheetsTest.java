/** Promises 1 to 5: a new object, sheet, set, copy, drop. */
public final class SheetsTest {
    private static final int BAD = PortRooms.BAD, NULL = -1000011, PLACE = -1000012, SIZE = -1000014, STORE = -1000015;

    public static void main(String[] args) {
        newObject();
        sheet();
        set();
        copy();
        drop();
        Due.end();
    }

    private static void newObject() {
        PortRooms x = new PortRooms(5);
        for (int what = 0; what <= 9; what++) {
            Due.due("P1 count(" + what + ")", x.count(what), 0);
        }
        Due.due("P1 status", x.status(), 0);
        Due.due("P1 fault", x.fault(), 0);
        Due.due("P1 trace", x.trace(0), PortRooms.NONE);
        Due.due("P1 day", x.day(7), 0);
        Due.due("P1 seed 1", new PortRooms(1).lot(0, 0, 1000000), 685753);
        Due.due("P1 other seeds, other lots", new PortRooms(2).lot(0, 0, 1000000) == 685753 ? 1 : 0, 0);
        for (int k = 0; k < 8; k++) {
            Due.due("P1 sheets are missing", x.drop(k), NULL);
        }
    }

    private static void sheet() {
        PortRooms x = new PortRooms(0);
        Due.due("P2 none", x.sheet(0, 0, 0), 0);
        Due.due("P2 most", x.sheet(7, 2, 60), 60);
        Due.due("P2 too many", x.sheet(7, 2, 61), BAD);
        Due.due("P2 no such sheet", x.sheet(8, 0, 1), BAD);
        Due.due("P2 no such sheet below", x.sheet(-1, 0, 1), BAD);
        Due.due("P2 no such lane", x.sheet(0, 3, 1), BAD);
        Due.due("P2 no such lane below", x.sheet(0, -1, 1), BAD);
        Due.due("P2 BAD ahead of SIZE", x.sheet(8, 0, -1), BAD);
        Due.due("P2 status unmoved by BAD", x.status(), 0);
        Due.due("P2 fewer than none", x.sheet(7, 0, -1), SIZE);
        Due.due("P2 status", x.status(), 4);
        Due.due("P2 far fewer", x.sheet(7, 0, Integer.MIN_VALUE), SIZE);
        Due.due("P2 what was found changes nothing", x.set(7, 59, 70000), 70000);
        Due.due("P2 in place of what is there", x.sheet(7, 2, 60), 60);
        Due.due("P2 items are 0 again", x.copy(7, 59, 7, 0, 1), 1);
        x.sheet(6, 2, 8);
        x.set(6, 0, 1);
        x.set(6, 1, 10);
        x.set(6, 2, 44);
        x.sheet(6, 2, 8);
        Due.due("P2 items are 0, so no company is told", x.holds(6, 0, 1), 0);
        x.set(6, 1, 10);
        x.set(6, 2, 44);
        Due.due("P2 the others are 0", x.holds(6, 0, 1), 1);
        Due.due("P2 owner 0 from day 0 on", x.percent(0, 10, 0), 44);
        Due.due("P2 count", x.count(0), 3);
    }

    private static void set() {
        PortRooms x = new PortRooms(0);
        Due.due("P3 missing", x.set(0, 0, 1), NULL);
        Due.due("P3 status", x.status(), 1);
        Due.due("P3 no sheet", x.set(8, 0, 1), BAD);
        Due.due("P3 no sheet below", x.set(-1, 0, 1), BAD);
        x.sheet(0, 0, 3);
        x.sheet(1, 1, 3);
        x.sheet(2, 2, 3);
        Due.due("P3 byte", x.set(0, 2, 127), 127);
        Due.due("P3 byte over", x.set(0, 2, 128), -128);
        Due.due("P3 byte lowest bits", x.set(0, 2, 0x12345678), 0x78);
        Due.due("P3 short", x.set(1, 2, 32767), 32767);
        Due.due("P3 short over", x.set(1, 2, 32768), -32768);
        Due.due("P3 short lowest bits", x.set(1, 0, 0x12345678), 0x5678);
        Due.due("P3 int", x.set(2, 0, Integer.MIN_VALUE), Integer.MIN_VALUE);
        Due.due("P3 status is 0 again", x.status(), 0);
        Due.due("P3 behind the end", x.set(2, 3, 1), PLACE);
        Due.due("P3 status of a place", x.status(), 2);
        Due.due("P3 ahead of the start", x.set(2, -1, 1), PLACE);
        Due.due("P3 far", x.set(2, Integer.MAX_VALUE, 1), PLACE);
        x.sheet(3, 0, 0);
        Due.due("P3 nothing has no places", x.set(3, 0, 1), PLACE);
    }

    private static void copy() {
        PortRooms x = new PortRooms(0);
        x.sheet(0, 2, 12);
        x.sheet(1, 2, 8);
        x.sheet(2, 1, 8);
        Due.due("P4 no sheet", x.copy(8, 0, 0, 0, 1), BAD);
        Due.due("P4 no other sheet", x.copy(0, 0, -1, 0, 1), BAD);
        Due.due("P4 missing", x.copy(3, 0, 0, 0, 1), NULL);
        Due.due("P4 other missing", x.copy(0, 0, 3, 0, 1), NULL);
        Due.due("P4 BAD ahead of NULL", x.copy(3, 0, 8, 0, 1), BAD);
        Due.due("P4 lanes", x.copy(0, 0, 2, 0, 1), STORE);
        Due.due("P4 status", x.status(), 5);
        Due.due("P4 STORE ahead of PLACE", x.copy(0, -1, 2, 0, 1), STORE);
        Due.due("P4 STORE of none", x.copy(0, 0, 2, 0, 0), STORE);
        Due.due("P4 i below", x.copy(0, -1, 1, 0, 1), PLACE);
        Due.due("P4 j below", x.copy(0, 0, 1, -1, 1), PLACE);
        Due.due("P4 n below", x.copy(0, 0, 1, 0, -1), PLACE);
        Due.due("P4 a's end", x.copy(0, 5, 1, 0, 8), PLACE);
        Due.due("P4 b's end", x.copy(0, 0, 1, 1, 8), PLACE);
        Due.due("P4 sums run over", x.copy(0, Integer.MAX_VALUE, 1, Integer.MAX_VALUE, Integer.MAX_VALUE), PLACE);
        Due.due("P4 none beyond the end", x.copy(0, 13, 1, 0, 0), PLACE);
        Due.due("P4 none beyond b's end", x.copy(0, 0, 1, 9, 0), PLACE);
        Due.due("P4 none at the ends", x.copy(0, 12, 1, 8, 0), 0);
        Due.due("P4 just to the ends", x.copy(0, 4, 1, 0, 8), 8);
        onward();
        backward();
    }

    /** A sheet copied onto itself further on must give the items as they were ahead. */
    private static void onward() {
        PortRooms x = new PortRooms(0);
        x.sheet(0, 2, 12);
        row(x, 0, 0, 11, 20, 1);
        row(x, 4, 1, 11, 30, 1);
        Due.due("P4 onward", x.copy(0, 0, 0, 4, 8), 8);
        Due.due("P4 onward, read", x.holds(0, 0, 3), 3);
        Due.due("P4 first", x.percent(0, 11, 1), 20);
        Due.due("P4 last", x.percent(1, 11, 1), 30);
        Due.due("P4 count", x.count(1), 3);
    }

    private static void backward() {
        PortRooms x = new PortRooms(0);
        x.sheet(0, 0, 12);
        x.sheet(1, 0, 4);
        row(x, 4, 2, 12, 40, 3);
        row(x, 8, 3, 13, 50, 3);
        Due.due("P4 backward", x.copy(0, 4, 0, 0, 8), 8);
        Due.due("P4 backward, read", x.holds(0, 0, 2), 2);
        Due.due("P4 first", x.percent(2, 12, 3), 40);
        Due.due("P4 second", x.percent(3, 13, 3), 50);
        Due.due("P4 to another", x.copy(0, 8, 1, 0, 4), 4);
        x.set(0, 10, 99);
        x.holds(1, 0, 1);
        Due.due("P4 sheets do not share items", x.percent(3, 13, 3), 50);
    }

    private static void row(PortRooms x, int at, int owner, int company, int percent, int day) {
        x.set(0, at, owner);
        x.set(0, at + 1, company);
        x.set(0, at + 2, percent);
        x.set(0, at + 3, day);
    }

    private static void drop() {
        PortRooms x = new PortRooms(0);
        x.sheet(4, 1, 17);
        Due.due("P5 no sheet", x.drop(8), BAD);
        Due.due("P5 no sheet below", x.drop(-1), BAD);
        Due.due("P5 missing", x.drop(5), NULL);
        Due.due("P5 status", x.status(), 1);
        Due.due("P5 had", x.drop(4), 17);
        Due.due("P5 status after", x.status(), 0);
        Due.due("P5 count", x.count(0), 0);
        Due.due("P5 twice", x.drop(4), NULL);
        x.sheet(4, 1, 0);
        Due.due("P5 a sheet of none is there", x.drop(4), 0);
    }
}
