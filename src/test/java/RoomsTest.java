/** Promises 23 to 25: room, move, inside. */
public final class RoomsTest {
    private static final int BAD = PortRooms.BAD, NONE = PortRooms.NONE, STATE = PortRooms.STATE, FULL = PortRooms.FULL;

    public static void main(String[] args) {
        room();
        moveByAir();
        moveByInsured();
        moveBad();
        inside();
        Due.end();
    }

    private static void room() {
        PortRooms x = new PortRooms(0);
        for (int k = 0; k < 6; k++) {
            Due.due("P23 air at first", x.room(k, 0, k), 4);
            Due.due("P23 insured at first", x.room(k, 1, 1000 * k), 100000);
        }
        Due.due("P23 what it was", x.room(5, 0, 12), 5);
        Due.due("P23 the most", x.room(5, 0, 0), 12);
        Due.due("P23 what it was, insured", x.room(5, 1, 1000000), 5000);
        Due.due("P23 the most, insured", x.room(5, 1, 0), 1000000);
        Due.due("P23 room", x.room(6, 0, 0), BAD);
        Due.due("P23 room below", x.room(-1, 0, 0), BAD);
        Due.due("P23 what", x.room(0, 2, 0), BAD);
        Due.due("P23 what below", x.room(0, -1, 0), BAD);
        Due.due("P23 air above", x.room(0, 0, 13), BAD);
        Due.due("P23 air below", x.room(0, 0, -1), BAD);
        Due.due("P23 insured above", x.room(0, 1, 1000001), BAD);
        Due.due("P23 insured below", x.room(0, 1, -1), BAD);
        Due.due("P23 refused ones change nothing", x.room(0, 0, 0), 0);
        Due.due("P23 refused ones change nothing, insured", x.room(4, 1, 0), 4000);
    }

    private static PortRooms withCrates(int n, int worth) {
        PortRooms x = new PortRooms(0);
        for (int k = 0; k < n; k++) {
            x.crate(0, worth);
        }
        return x;
    }

    private static void moveByAir() {
        PortRooms x = withCrates(12, 1);
        for (int k = 0; k < 4; k++) {
            Due.due("P24 from none", x.move(k, 5), NONE);
        }
        Due.due("P24 no air", x.move(4, 5), FULL);
        Due.due("P24 it is there, ahead of FULL", x.move(3, 5), STATE);
        Due.due("P24 a place more", x.room(5, 0, 5), 4);
        Due.due("P24 fits", x.move(4, 5), NONE);
        Due.due("P24 to another room", x.move(4, 0), 5);
        Due.due("P24 back", x.move(4, 5), 0);
        Due.due("P24 to none", x.move(4, NONE), 5);
        Due.due("P24 is in none", x.move(4, NONE), STATE);
        Due.due("P24 air for none", x.room(1, 0, 0), 4);
        Due.due("P24 no air for any", x.move(5, 1), FULL);
        Due.due("P24 refused ones stay", x.move(5, 2), NONE);
        Due.due("P23 less air than crates", x.room(5, 0, 2), 5);
        Due.due("P23 what is there stays", x.inside(5, 0), 4);
        Due.due("P24 no air", x.move(6, 5), FULL);
        Due.due("P24 out of it", x.move(0, NONE), 5);
        x.move(1, NONE);
        Due.due("P24 still no air", x.move(6, 5), FULL);
        x.move(2, NONE);
        Due.due("P24 air again", x.move(6, 5), NONE);
    }

    private static void moveByInsured() {
        PortRooms x = withCrates(3, 50000);
        x.crate(0, 1);
        x.move(0, 2);
        Due.due("P24 just insured", x.move(1, 2), NONE);
        Due.due("P24 one more worth", x.move(3, 2), FULL);
        x.room(2, 1, 100001);
        Due.due("P24 insured now", x.move(3, 2), NONE);
        x.room(3, 1, 0);
        Due.due("P24 nothing insured", x.move(2, 3), FULL);
        x.room(2, 1, 5);
        Due.due("P23 what is there stays", x.inside(2, 1), 100001);
    }

    private static void moveBad() {
        PortRooms x = withCrates(1, 1);
        Due.due("P24 crate", x.move(1, 0), BAD);
        Due.due("P24 crate below", x.move(-1, 0), BAD);
        Due.due("P24 room", x.move(0, 6), BAD);
        Due.due("P24 room below", x.move(0, -1), BAD);
        Due.due("P24 beside NONE", x.move(0, NONE - 1), BAD);
        Due.due("P24 no crate to none", x.move(1, NONE), BAD);
        Due.due("P24 nothing changed", x.move(0, 5), NONE);
    }

    private static void inside() {
        PortRooms x = withCrates(11, 3);
        x.crate(0, 100);
        int[] where = {0, 5, 0, 5, 1, NONE, 0, NONE, NONE, NONE, NONE, 5};
        for (int k = 0; k < where.length; k++) {
            if (where[k] != NONE) {
                x.move(k, where[k]);
            }
        }
        int[][] want = {{3, 9, 1 | 4 | 64}, {1, 3, 16}, {0, 0, 0}, {0, 0, 0}, {0, 0, 0}, {3, 106, 2 | 8 | 2048}};
        for (int room = 0; room < 6; room++) {
            for (int what = 0; what < 3; what++) {
                Due.due("P25 room " + room + ", " + what, x.inside(room, what), want[room][what]);
            }
        }
        Due.due("P25 room", x.inside(6, 0), BAD);
        Due.due("P25 room below", x.inside(-1, 0), BAD);
        Due.due("P25 none is no room", x.inside(NONE, 0), BAD);
        Due.due("P25 what", x.inside(0, 3), BAD);
        Due.due("P25 what below", x.inside(0, -1), BAD);
    }
}
