/** Promises 12 to 17: crate, paper, owner, quarrels, pledge, rank. */
public final class CratesTest {
    private static final int BAD = PortRooms.BAD, NONE = PortRooms.NONE, FULL = PortRooms.FULL;

    public static void main(String[] args) {
        crate();
        paper();
        owner();
        quarrels();
        pledge();
        rank();
        rankBad();
        paid();
        Due.end();
    }

    private static void crate() {
        PortRooms x = new PortRooms(0);
        Due.due("P12 owner below", x.crate(-1, 1), BAD);
        Due.due("P12 owner above", x.crate(20, 1), BAD);
        Due.due("P12 worth below", x.crate(0, 0), BAD);
        Due.due("P12 worth above", x.crate(0, 100001), BAD);
        for (int k = 0; k < 12; k++) {
            Due.due("P12 number " + k, x.crate(k == 11 ? 19 : k, k == 0 ? 100000 : k), k);
        }
        Due.due("P12 the 13th", x.crate(0, 1), FULL);
        Due.due("P12 BAD ahead of FULL", x.crate(20, 1), BAD);
        Due.due("P12 first owner from day 0 on", x.owner(11, 0, 0), 19);
        Due.due("P12 worth", x.as(0, 0), 100000);
        Due.due("P12 worth of another", x.as(7, 0), 7);
        Due.due("P12 count", x.count(2), 12);
    }

    private static void paper() {
        PortRooms x = new PortRooms(0);
        Due.due("P13 no crate yet", x.paper(0, 0, 1, 0, 0), BAD);
        x.crate(0, 1);
        x.crate(0, 1);
        Due.due("P13 no such crate", x.paper(2, 0, 1, 0, 0), BAD);
        Due.due("P13 crate below", x.paper(-1, 0, 1, 0, 0), BAD);
        Due.due("P13 from below", x.paper(0, -1, 1, 0, 0), BAD);
        Due.due("P13 from above", x.paper(0, 20, 1, 0, 0), BAD);
        Due.due("P13 to below", x.paper(0, 0, -1, 0, 0), BAD);
        Due.due("P13 to above", x.paper(0, 0, 20, 0, 0), BAD);
        Due.due("P13 like ones", x.paper(0, 5, 5, 0, 0), BAD);
        Due.due("P13 said below", x.paper(0, 0, 1, -1, 0), BAD);
        Due.due("P13 filed above", x.paper(0, 0, 1, 0, 10000), BAD);
        Due.due("P13 filed before said", x.paper(0, 0, 1, 5, 4), BAD);
        Due.due("P13 none told", x.count(3), 0);
        Due.due("P13 filed as said", x.paper(0, 0, 19, 5, 5), 1);
        Due.due("P13 not by its owner", x.paper(1, 7, 0, 0, 9999), 2);
        for (int k = 3; k <= 40; k++) {
            Due.due("P13 the " + k, x.paper(k % 2, 0, 1, 9999, 9999), k);
        }
        Due.due("P13 the 41st", x.paper(0, 19, 4, 0, 0), FULL);
        Due.due("P13 BAD ahead of FULL", x.paper(0, 19, 19, 0, 0), BAD);
        Due.due("P13 count", x.count(3), 40);
    }

    private static void owner() {
        PortRooms x = new PortRooms(0);
        x.crate(0, 1);
        x.crate(0, 1);
        x.paper(0, 3, 4, 30, 31);
        x.paper(0, 0, 1, 10, 20);
        x.paper(0, 1, 3, 20, 20);
        Due.due("P14 on day 9", x.owner(0, 9, 99), 0);
        Due.due("P14 on day 10", x.owner(0, 10, 99), 1);
        Due.due("P14 not known yet", x.owner(0, 10, 19), 0);
        Due.due("P14 known since", x.owner(0, 10, 20), 1);
        Due.due("P14 next", x.owner(0, 20, 20), 3);
        Due.due("P14 between", x.owner(0, 29, 31), 3);
        Due.due("P14 last", x.owner(0, 30, 31), 4);
        Due.due("P14 last is not known", x.owner(0, 30, 30), 3);
        Due.due("P14 a later day than known", x.owner(0, 9999, 0), 0);
        Due.due("P14 another crate", x.owner(1, 99, 99), 0);
        x.paper(0, 0, 15, 5, 40);
        Due.due("P14 filed late, before", x.owner(0, 30, 39), 4);
        Due.due("P14 filed late, after", x.owner(0, 30, 40), 15);
        Due.due("P14 no crate", x.owner(2, 0, 0), BAD);
        Due.due("P14 crate below", x.owner(-1, 0, 0), BAD);
        Due.due("P14 day", x.owner(0, 10000, 0), BAD);
        Due.due("P14 day below", x.owner(0, -1, 0), BAD);
        Due.due("P14 known", x.owner(0, 0, 10000), BAD);
        Due.due("P14 known below", x.owner(0, 0, -1), BAD);
        ofOneDay();
    }

    /** Of one SAID the one FILED first is ahead; of like ones the one told first. */
    private static void ofOneDay() {
        PortRooms x = new PortRooms(0);
        x.crate(0, 1);
        x.paper(0, 0, 1, 10, 13);
        x.paper(0, 0, 2, 10, 12);
        x.paper(0, 0, 3, 10, 12);
        Due.due("P14 by filed, then as told", x.owner(0, 10, 13), 2);
        Due.due("P15 the other two", x.quarrels(0, 13), 2);
        x.paper(0, 2, 5, 10, 12);
        x.paper(0, 5, 0, 10, 12);
        Due.due("P14 back to the first, then the late one", x.owner(0, 10, 13), 1);
        Due.due("P15 one", x.quarrels(0, 13), 1);
        Due.due("P15 as known earlier", x.quarrels(0, 12), 1);
    }

    private static void quarrels() {
        PortRooms x = new PortRooms(0);
        x.crate(0, 1);
        x.crate(1, 1);
        Due.due("P15 none", x.quarrels(0, 9999), 0);
        x.paper(0, 0, 2, 10, 10);
        x.paper(1, 0, 2, 10, 10);
        x.paper(0, 0, 3, 5, 50);
        Due.due("P15 good", x.quarrels(0, 49), 0);
        Due.due("P15 two that quarrel", x.quarrels(0, 50), 1);
        Due.due("P15 the other crate", x.quarrels(1, 10), 1);
        Due.due("P15 of days to come, too", x.quarrels(1, 9), 0);
        Due.due("P15 no crate", x.quarrels(2, 0), BAD);
        Due.due("P15 crate below", x.quarrels(-1, 0), BAD);
        Due.due("P15 day", x.quarrels(0, 10000), BAD);
        Due.due("P15 day below", x.quarrels(0, -1), BAD);
    }

    private static void pledge() {
        PortRooms x = new PortRooms(0);
        Due.due("P16 no crate yet", x.pledge(0, 0, 1, 0, 0), BAD);
        x.crate(0, 1);
        Due.due("P16 crate below", x.pledge(-1, 0, 1, 0, 0), BAD);
        Due.due("P16 no person", x.pledge(0, 10, 1, 0, 0), BAD);
        Due.due("P16 person below", x.pledge(0, -1, 1, 0, 0), BAD);
        Due.due("P16 sum below", x.pledge(0, 0, 0, 0, 0), BAD);
        Due.due("P16 sum above", x.pledge(0, 0, 100001, 0, 0), BAD);
        Due.due("P16 said below", x.pledge(0, 0, 1, -1, 0), BAD);
        Due.due("P16 filed above", x.pledge(0, 0, 1, 0, 10000), BAD);
        Due.due("P16 filed before said", x.pledge(0, 0, 1, 5, 4), BAD);
        for (int k = 0; k < 40; k++) {
            Due.due("P16 number " + k, x.pledge(0, 9, 100000, 5, 9999), k);
        }
        Due.due("P16 the 41st", x.pledge(0, 9, 1, 0, 0), FULL);
        Due.due("P16 BAD ahead of FULL", x.pledge(0, 10, 1, 0, 0), BAD);
        Due.due("P16 count", x.count(4), 40);
        Due.due("P17 the last of forty", x.rank(0, 9999, 3, 39, 0), 39);
        Due.due("P17 none behind", x.rank(0, 9999, 3, 40, 0), NONE);
        Due.due("P17 none known", x.rank(0, 9998, 3, 0, 0), NONE);
    }

    private static PortRooms withPledges() {
        PortRooms x = new PortRooms(0);
        x.crate(0, 1000);
        x.crate(0, 1000);
        x.pledge(0, 1, 300, 6, 20);
        x.pledge(1, 1, 999, 0, 0);
        x.pledge(0, 2, 500, 4, 10);
        x.pledge(0, 3, 300, 5, 20);
        x.pledge(0, 4, 900, 5, 15);
        x.pledge(0, 5, 500, 4, 30);
        return x;
    }

    private static void rank() {
        PortRooms x = withPledges();
        int[][] want = {{2, 4, 0, 3, 5}, {2, 5, 3, 4, 0}, {4, 2, 5, 0, 3}, {5, 0, 3, 4, 2}};
        for (int land = 0; land < 4; land++) {
            for (int i = 0; i < 5; i++) {
                Due.due("P17 land " + land + ", " + i, x.rank(0, 30, land, i, 0), want[land][i]);
            }
            Due.due("P17 not so many", x.rank(0, 30, land, 5, 0), NONE);
            Due.due("P17 not so many known", x.rank(0, 29, land, 4, 0), NONE);
            Due.due("P17 the other crate's", x.rank(1, 0, land, 0, 0), 1);
        }
        Due.due("P17 as known on 15, by sum", x.rank(0, 15, 2, 0, 0), 4);
        Due.due("P17 as known on 14, by sum", x.rank(0, 14, 2, 0, 0), 2);
        Due.due("P17 far", x.rank(0, 30, 0, Integer.MAX_VALUE, 0), NONE);
    }

    private static void rankBad() {
        PortRooms x = withPledges();
        Due.due("P17 crate", x.rank(2, 0, 0, 0, 0), BAD);
        Due.due("P17 crate below", x.rank(-1, 0, 0, 0, 0), BAD);
        Due.due("P17 day", x.rank(0, 10000, 0, 0, 0), BAD);
        Due.due("P17 day below", x.rank(0, -1, 0, 0, 0), BAD);
        Due.due("P17 land", x.rank(0, 30, 4, 0, 0), BAD);
        Due.due("P17 land below", x.rank(0, 30, -1, 0, 0), BAD);
        Due.due("P17 what", x.rank(0, 30, 0, 0, 2), BAD);
        Due.due("P17 what below", x.rank(0, 30, 0, 0, -1), BAD);
        Due.due("P17 numbers go from 0 on", x.rank(0, 30, 0, -1, 0), BAD);
        Due.due("P17 BAD ahead of NONE", x.rank(0, 30, 0, 9, 2), BAD);
    }

    private static void paid() {
        PortRooms x = withPledges();
        int[][] want = {{500, 500, 0, 0, 0}, {500, 500, 0, 0, 0}, {900, 100, 0, 0, 0}, {500, 300, 200, 0, 0}};
        for (int land = 0; land < 4; land++) {
            for (int i = 0; i < 5; i++) {
                Due.due("P17 paid by land " + land + ", " + i, x.rank(0, 30, land, i, 1), want[land][i]);
            }
            Due.due("P17 nobody to pay", x.rank(0, 30, land, 5, 1), NONE);
        }
        Due.due("P17 paid as known", x.rank(0, 20, 3, 0, 1), 300);
    }
}
