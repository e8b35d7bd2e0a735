/** Promises 23 to 25, and what the terms say of rooms: room, move, inside. */
public final class RoomsTest {
    private static final int BAD = PortRooms.BAD, NONE = PortRooms.NONE, STATE = PortRooms.STATE, FULL = PortRooms.FULL;

    public static void main(String[] args) {
        roomsAtFirst();
        airs();
        insureds();
        inNoneAtFirst();
        room();
        roomRefused();
        whatIsThereStays();
        move();
        moveBad();
        moveState();
        moveFullByAir();
        moveFullByInsured();
        inside();
        insideRefused();
        Due.end();
    }

    private static PortRooms withCrates(int n, int worth) {
        PortRooms x = new PortRooms(0);
        for (int k = 0; k < n; k++) {
            x.crate(0, worth);
        }
        return x;
    }

    private static void roomsAtFirst() {
        Due.says(0, "ROOMS 0 .. 5:");
        PortRooms x = new PortRooms(0);
        for (int k = 0; k < 6; k++) {
            Due.due("air of " + k, x.room(k, 0, k), 4);
            Due.due("insured of " + k, x.room(k, 1, 1000 * k), 100000);
        }
        for (int k = 0; k < 6; k++) {
            Due.due("each has its own air", x.room(k, 0, 0), k);
            Due.due("each has its own insured", x.room(k, 1, 0), 1000 * k);
        }
        Due.range("room", 0, 5, v -> new PortRooms(0).inside(v, 0));
    }

    private static void airs() {
        Due.says(0, "AIR (how many CRATES: 0 to 12; 4 at first),");
        Due.range("air", 0, 12, v -> new PortRooms(0).room(0, 0, v));
        PortRooms x = withCrates(12, 1);
        for (int k = 0; k < 4; k++) {
            Due.due("four at first", x.move(k, 3), NONE);
        }
        Due.due("not a fifth", x.move(4, 3), FULL);
        x.room(3, 0, 12);
        for (int k = 4; k < 12; k++) {
            Due.due("twelve at most", x.move(k, 3), NONE);
        }
        Due.due("all are there", x.inside(3, 2), 4095);
        x.room(4, 0, 0);
        Due.due("none", x.move(0, 4), FULL);
    }

    private static void insureds() {
        Due.says(0, "INSURED (what worths may be together: 0 to 1000000; 100000 at first).");
        Due.range("insured", 0, 1000000, v -> new PortRooms(0).room(0, 1, v));
        PortRooms x = withCrates(12, 100000);
        Due.due("100000 at first", x.move(0, 1), NONE);
        Due.due("not more", x.move(1, 1), FULL);
        x.room(1, 1, 1000000);
        x.room(1, 0, 12);
        for (int k = 1; k < 10; k++) {
            Due.due("1000000 at most", x.move(k, 1), NONE);
        }
        Due.due("not an eleventh", x.move(10, 1), FULL);
        Due.due("worths together", x.inside(1, 1), 1000000);
        x.room(2, 1, 0);
        Due.due("nothing insured", x.move(11, 2), FULL);
    }

    private static void inNoneAtFirst() {
        Due.says(0, "A CRATE is in a ROOM, or in none (at first).");
        PortRooms x = withCrates(12, 1);
        for (int k = 0; k < 6; k++) {
            Due.due("nothing in " + k, x.inside(k, 2), 0);
        }
        for (int k = 0; k < 12; k++) {
            Due.due("it is in none", x.move(k, NONE), STATE);
        }
        Due.due("it comes from none", x.move(11, 5), NONE);
        Due.due("it is in one", x.inside(5, 2), 2048);
        Due.due("it comes from that", x.move(11, 4), 5);
        Due.due("it is in one alone", x.inside(5, 2), 0);
    }

    private static void room() {
        Due.says(23, "AIR (what = 0), INSURED (1) of a ROOM: what it was.");
        PortRooms x = new PortRooms(0);
        Due.due("air at first", x.room(5, 0, 12), 4);
        Due.due("the most", x.room(5, 0, 0), 12);
        Due.due("the least", x.room(5, 0, 3), 0);
        Due.due("insured at first", x.room(5, 1, 1000000), 100000);
        Due.due("the most insured", x.room(5, 1, 0), 1000000);
        Due.due("the least insured", x.room(5, 1, 7), 0);
        Due.due("air is not insured", x.room(5, 0, 4), 3);
        Due.due("as it is", x.room(5, 0, 4), 4);
    }

    private static void roomRefused() {
        Due.says(23, "BAD.");
        Due.range("room", 0, 5, v -> new PortRooms(0).room(v, 0, 0));
        Due.range("what", 0, 1, v -> new PortRooms(0).room(0, v, 0));
        Due.range("air", 0, 12, v -> new PortRooms(0).room(0, 0, v));
        Due.range("insured", 0, 1000000, v -> new PortRooms(0).room(0, 1, v));
        Due.due("NONE is no room", new PortRooms(0).room(NONE, 0, 0), BAD);
    }

    private static void whatIsThereStays() {
        Due.says(23, "(What is there stays.)");
        PortRooms x = withCrates(6, 50);
        for (int k = 0; k < 4; k++) {
            x.move(k, 5);
        }
        x.room(5, 0, 2);
        x.room(5, 1, 99);
        Due.due("four where two may be", x.inside(5, 0), 4);
        Due.due("200 where 99 may be", x.inside(5, 1), 200);
        x.room(5, 0, 0);
        x.room(5, 1, 0);
        Due.due("four where none may be", x.inside(5, 2), 15);
        Due.due("one may go", x.move(0, NONE), 5);
        Due.due("and not come back", x.move(0, 5), FULL);
        x.room(5, 0, 2);
        x.room(5, 1, 100000);
        x.move(1, NONE);
        Due.due("two where two may be", x.move(4, 5), FULL);
        x.move(2, NONE);
        Due.due("air again", x.move(4, 5), NONE);
    }

    private static void move() {
        Due.says(24, "A CRATE goes to a ROOM (NONE: to none): where it was (NONE).");
        PortRooms x = withCrates(2, 1);
        Due.due("from none", x.move(0, 5), NONE);
        Due.due("to the first room", x.move(0, 0), 5);
        Due.due("to none", x.move(0, NONE), 0);
        Due.due("from none again", x.move(0, 3), NONE);
        Due.due("the other one", x.move(1, 3), NONE);
        Due.due("both", x.inside(3, 2), 3);
    }

    private static void moveBad() {
        Due.says(24, "BAD;");
        Due.range("crate", 0, 0, v -> withCrates(1, 1).move(v, 0));
        Due.range("crate of twelve", 0, 11, v -> withCrates(12, 1).move(v, 0));
        Due.range("room", 0, 5, v -> withCrates(1, 1).move(0, v));
        PortRooms x = withCrates(1, 1);
        Due.due("above NONE", x.move(0, NONE + 1), BAD);
        Due.due("below NONE", x.move(0, NONE - 1), BAD);
        Due.due("no crate to none", x.move(1, NONE), BAD);
        Due.due("no crate at all", new PortRooms(0).move(0, NONE), BAD);
        x.room(0, 0, 0);
        Due.due("no crate ahead of FULL", x.move(1, 0), BAD);
        Due.due("it has not gone", x.move(0, 5), NONE);
    }

    private static void moveState() {
        Due.says(24, "STATE: it is there;");
        PortRooms x = withCrates(5, 1);
        Due.due("in none", x.move(0, NONE), STATE);
        for (int k = 0; k < 4; k++) {
            x.move(k, 5);
        }
        Due.due("in a room", x.move(3, 5), STATE);
        Due.due("in a room without air, ahead of FULL", x.move(0, 5), STATE);
        x.room(5, 1, 0);
        Due.due("in a room without insurance, ahead of FULL", x.move(0, 5), STATE);
        Due.due("it is still there", x.inside(5, 2), 15);
    }

    private static void moveFullByAir() {
        Due.says(24, "FULL: the ROOM has no AIR,");
        PortRooms x = withCrates(6, 1);
        for (int k = 0; k < 4; k++) {
            x.move(k, 5);
        }
        Due.due("the fifth", x.move(4, 5), FULL);
        Due.due("it is in none", x.move(4, NONE), STATE);
        x.move(4, 2);
        Due.due("from another room", x.move(4, 5), FULL);
        Due.due("it is there still", x.move(4, 2), STATE);
        x.room(5, 0, 5);
        Due.due("a place more", x.move(4, 5), 2);
        Due.due("the sixth", x.move(5, 5), FULL);
        x.move(0, NONE);
        Due.due("a place left", x.move(5, 5), NONE);
        Due.due("none needs no air", x.move(5, NONE), 5);
    }

    private static void moveFullByInsured() {
        Due.says(24, "or worths there would be more than INSURED.");
        PortRooms x = withCrates(3, 50000);
        x.crate(0, 1);
        x.move(0, 2);
        Due.due("just insured", x.move(1, 2), NONE);
        Due.due("1 more", x.move(3, 2), FULL);
        Due.due("it is in none", x.move(3, NONE), STATE);
        x.room(2, 1, 100001);
        Due.due("insured now", x.move(3, 2), NONE);
        x.room(3, 1, 49999);
        Due.due("1 less than its worth", x.move(2, 3), FULL);
        x.room(3, 1, 50000);
        Due.due("just its worth", x.move(2, 3), NONE);
        x.room(2, 1, 0);
        Due.due("none needs no insurance", x.move(0, NONE), 2);
    }

    private static void inside() {
        Due.says(25, "In a ROOM: how many CRATES (what = 0), their worths (1), the set of them (2: bits).");
        PortRooms x = withCrates(11, 3);
        x.crate(0, 100);
        int[] where = {0, 5, 0, 5, 1, NONE, 0, NONE, NONE, NONE, NONE, 5};
        for (int k = 0; k < where.length; k++) {
            x.move(k, where[k]);
        }
        int[][] want = {{3, 9, 1 | 4 | 64}, {1, 3, 16}, {0, 0, 0}, {0, 0, 0}, {0, 0, 0}, {3, 106, 2 | 8 | 2048}};
        for (int room = 0; room < 6; room++) {
            for (int what = 0; what < 3; what++) {
                Due.due("room " + room + ", " + what, x.inside(room, what), want[room][what]);
            }
        }
        Due.due("no crates at all", new PortRooms(0).inside(0, 1), 0);
    }

    private static void insideRefused() {
        Due.says(25, "BAD.");
        Due.range("room", 0, 5, v -> withCrates(1, 1).inside(v, 0));
        Due.range("what", 0, 2, v -> withCrates(1, 1).inside(0, v));
        Due.due("none is no room", withCrates(1, 1).inside(NONE, 2), BAD);
    }
}
