/** Promises 12 to 17, and what the terms say of crates: crate, paper, owner, quarrels, pledge, rank. */
public final class CratesTest {
    private static final int BAD = PortRooms.BAD, NONE = PortRooms.NONE, FULL = PortRooms.FULL;
    private static final int FAR = Integer.MAX_VALUE;

    public static void main(String[] args) {
        mostCrates();
        firstOwner();
        worths();
        mostPapers();
        unlike();
        notFiledBeforeSaid();
        asKnown();
        goneThrough();
        goneThroughOnOneDay();
        good();
        ownerBySaid();
        quarrelsAsKnown();
        mostPledges();
        pledgeNumbers();
        pledgesAsKnown();
        byTheLaw();
        likeOnes();
        paidAsFarAsThereIsAny();
        crate();
        crateRefused();
        paper();
        paperRefused();
        owner();
        ownerRefused();
        quarrels();
        quarrelsRefused();
        pledge();
        pledgeRefused();
        rank();
        notSoMany();
        rankRefused();
        Due.end();
    }

    private static PortRooms withCrates(int... owners) {
        PortRooms x = new PortRooms(0);
        for (int owner : owners) {
            x.crate(owner, 1000);
        }
        return x;
    }

    private static void mostCrates() {
        Due.says(0, "CRATES 0 .. 11 (12 at most),");
        PortRooms x = new PortRooms(0);
        Due.due("none yet", x.owner(0, 0, 0), BAD);
        for (int k = 0; k < 12; k++) {
            Due.due("number " + k, x.crate(k, 1 + k), k);
            Due.due("is there", x.owner(k, 0, 0), k);
            Due.due("the next one is not", x.owner(k + 1, 0, 0), BAD);
        }
        Due.due("the 13th", x.crate(0, 1), FULL);
        Due.due("number 12", x.owner(12, 0, 0), BAD);
        Due.due("number -1", x.owner(-1, 0, 0), BAD);
        Due.due("the last one's worth", x.as(11, 0), 12);
    }

    private static void firstOwner() {
        Due.says(0, "each with a first owner (an OWNER) from day 0 on,");
        PortRooms x = withCrates(0, 9, 10, 19);
        int[] want = {0, 9, 10, 19};
        for (int k = 0; k < 4; k++) {
            Due.due("on day 0", x.owner(k, 0, 0), want[k]);
            Due.due("on the last day", x.owner(k, 9999, 9999), want[k]);
        }
        Due.range("owner", 0, 19, v -> new PortRooms(0).crate(v, 1));
    }

    private static void worths() {
        Due.says(0, "a worth (1 to 100000).");
        Due.range("worth", 1, 100000, v -> new PortRooms(0).crate(0, v));
        PortRooms x = new PortRooms(0);
        x.crate(0, 1);
        x.crate(0, 100000);
        Due.due("the least", x.as(0, 0), 1);
        Due.due("the most", x.as(1, 0), 100000);
    }

    private static void mostPapers() {
        Due.says(0, "PAPERS, as they are told (40 at most): a CRATE,");
        PortRooms x = withCrates(0, 0);
        for (int k = 1; k <= 40; k++) {
            Due.due("the " + k, x.paper(k % 2, k / 2 % 20, (k / 2 + 1) % 20, 5, 5), k);
        }
        Due.due("the 41st", x.paper(0, 0, 1, 0, 0), FULL);
        Due.due("the 40th is kept, and good", x.owner(0, 5, 5), 1);
        Due.due("the 19 of its crate ahead of it are not good", x.quarrels(0, 5), 19);
        Due.due("those of the other crate are", x.quarrels(1, 5), 0);
        Due.due("the 41st is not", x.owner(0, 4, 5), 0);
    }

    private static void unlike() {
        Due.says(0, "from and to (OWNERS, unlike),");
        Due.range("from", 0, 18, v -> v == 19 ? BAD : withCrates(0).paper(0, v, 19, 0, 0));
        Due.range("to", 1, 19, v -> withCrates(0).paper(0, 0, v, 0, 0));
        Due.due("from 20", withCrates(0).paper(0, 20, 1, 0, 0), BAD);
        for (int owner = 0; owner < 20; owner++) {
            Due.due("to itself", withCrates(0).paper(0, owner, owner, 0, 0), BAD);
        }
    }

    private static void notFiledBeforeSaid() {
        Due.says(0, "SAID (the day it is for), FILED (the day it came; not before SAID).");
        Due.due("filed a day before", withCrates(0).paper(0, 0, 1, 5, 4), BAD);
        Due.due("filed the day itself", withCrates(0).paper(0, 0, 1, 5, 5), 1);
        Due.due("filed a day later", withCrates(0).paper(0, 0, 1, 5, 6), 1);
        Due.due("first and last day", withCrates(0).paper(0, 0, 1, 0, 9999), 1);
        Due.due("last and first day", withCrates(0).paper(0, 0, 1, 9999, 0), BAD);
        Due.due("both the first day", withCrates(0).paper(0, 0, 1, 0, 0), 1);
        Due.due("both the last day", withCrates(0).paper(0, 0, 1, 9999, 9999), 1);
        Due.range("said", 0, 9999, v -> withCrates(0).paper(0, 0, 1, v, 9999));
        Due.range("filed", 0, 9999, v -> withCrates(0).paper(0, 0, 1, 0, v));
    }

    private static void asKnown() {
        Due.says(0, "AS KNOWN on a day: PAPERS FILED on it or earlier.");
        PortRooms x = withCrates(0);
        x.paper(0, 0, 1, 10, 20);
        Due.due("a day earlier", x.owner(0, 10, 19), 0);
        Due.due("on it", x.owner(0, 10, 20), 1);
        Due.due("a day later", x.owner(0, 10, 21), 1);
        Due.due("known on the first day", x.owner(0, 9999, 0), 0);
        x.paper(0, 0, 15, 5, 9999);
        Due.due("filed late, before", x.owner(0, 30, 9998), 1);
        Due.due("filed late, after", x.owner(0, 30, 9999), 15);
    }

    private static void goneThrough() {
        Due.says(0, "They are gone through by SAID,");
        PortRooms x = withCrates(0);
        x.paper(0, 3, 4, 30, 31);
        x.paper(0, 0, 1, 10, 29);
        x.paper(0, 1, 3, 20, 20);
        Due.due("though told and filed otherwise", x.owner(0, 30, 31), 4);
        Due.due("none quarrels", x.quarrels(0, 31), 0);
        Due.due("without the first one", x.owner(0, 30, 28), 0);
        Due.due("the other quarrels", x.quarrels(0, 28), 1);
    }

    private static void goneThroughOnOneDay() {
        Due.says(0, "of one day by FILED, of like ones as they were told:");
        PortRooms x = withCrates(0);
        x.paper(0, 0, 1, 10, 13);
        x.paper(0, 0, 2, 10, 12);
        x.paper(0, 0, 3, 10, 12);
        Due.due("by filed, then as told", x.owner(0, 10, 13), 2);
        Due.due("the other two quarrel", x.quarrels(0, 13), 2);
        x.paper(0, 2, 5, 10, 12);
        x.paper(0, 5, 0, 10, 12);
        Due.due("back to the first, then the late one", x.owner(0, 10, 13), 1);
        Due.due("one quarrels", x.quarrels(0, 13), 1);
        Due.due("as known earlier", x.quarrels(0, 12), 1);
        PortRooms y = withCrates(0);
        y.paper(0, 1, 2, 7, 7);
        y.paper(0, 0, 1, 7, 7);
        Due.due("told the other way round", y.owner(0, 7, 7), 1);
    }

    private static void good() {
        Due.says(0, "one is GOOD, if its from is the owner then; its to is the owner from SAID on.");
        PortRooms x = withCrates(0);
        x.paper(0, 0, 1, 10, 10);
        x.paper(0, 0, 2, 11, 11);
        x.paper(0, 1, 0, 12, 12);
        x.paper(0, 0, 3, 9999, 9999);
        int[] days = {9, 10, 11, 12, 9998, 9999};
        int[] want = {0, 1, 1, 0, 0, 3};
        for (int k = 0; k < days.length; k++) {
            Due.due("on day " + days[k], x.owner(0, days[k], 9999), want[k]);
        }
        Due.due("one is not good", x.quarrels(0, 9999), 1);
        PortRooms y = withCrates(0);
        y.paper(0, 0, 19, 0, 0);
        Due.due("from day 0 on", y.owner(0, 0, 0), 19);
    }

    private static void ownerBySaid() {
        Due.says(0, "OWNER of a CRATE on a day, AS KNOWN on another one: by GOOD PAPERS with SAID that day or earlier.");
        PortRooms x = withCrates(0, 0);
        x.paper(0, 0, 1, 10, 20);
        Due.due("a day earlier", x.owner(0, 9, 9999), 0);
        Due.due("that day", x.owner(0, 10, 9999), 1);
        Due.due("a day earlier than it came", x.owner(0, 19, 20), 1);
        Due.due("a day later than known", x.owner(0, 9999, 20), 1);
        Due.due("another crate", x.owner(1, 9999, 9999), 0);
    }

    private static void quarrelsAsKnown() {
        Due.says(0, "QUARRELS: PAPERS AS KNOWN that are not GOOD.");
        PortRooms x = withCrates(0, 1);
        x.paper(0, 0, 2, 10, 10);
        x.paper(0, 0, 3, 5, 50);
        x.paper(1, 0, 2, 9999, 9999);
        Due.due("good as long as it is alone", x.quarrels(0, 49), 0);
        Due.due("the later of two is not", x.quarrels(0, 50), 1);
        Due.due("and the other one is the owner", x.owner(0, 10, 50), 3);
        Due.due("not known yet", x.quarrels(1, 9998), 0);
        Due.due("known", x.quarrels(1, 9999), 1);
    }

    private static void mostPledges() {
        Due.says(0, "PLEDGES, as they are told (40 at most):");
        PortRooms x = withCrates(0, 0);
        for (int k = 0; k < 40; k++) {
            Due.due("number " + k, x.pledge(k % 2, 9, 1 + k, 5, 9999), k);
        }
        Due.due("the 41st", x.pledge(0, 9, 1, 0, 0), FULL);
        Due.due("the 40th is kept", x.rank(1, 9999, 2, 0, 0), 39);
        Due.due("the 41st is not", x.rank(0, 0, 0, 0, 0), NONE);
    }

    private static void pledgeNumbers() {
        Due.says(0, "a CRATE, a lender (a person), a sum (1 to 100000), SAID, FILED (likewise).");
        Due.range("lender", 0, 9, v -> withCrates(0).pledge(0, v, 1, 0, 0));
        Due.range("sum", 1, 100000, v -> withCrates(0).pledge(0, 0, v, 0, 0));
        Due.range("said", 0, 9999, v -> withCrates(0).pledge(0, 0, 1, v, 9999));
        Due.range("filed", 0, 9999, v -> withCrates(0).pledge(0, 0, 1, 0, v));
        Due.due("filed a day before", withCrates(0).pledge(0, 0, 1, 5, 4), BAD);
        Due.due("filed the day itself", withCrates(0).pledge(0, 0, 1, 5, 5), 0);
        Due.due("last and first day", withCrates(0).pledge(0, 0, 1, 9999, 0), BAD);
    }

    private static void pledgesAsKnown() {
        Due.says(0, "RANK of a CRATE's PLEDGES, AS KNOWN on a day, (FILED on it or earlier),");
        PortRooms x = withPledges();
        Due.due("a day earlier, by sum", x.rank(0, 14, 2, 0, 0), 2);
        Due.due("that day, by sum", x.rank(0, 15, 2, 0, 0), 4);
        Due.due("none yet", x.rank(0, 9, 0, 0, 0), NONE);
        Due.due("the first", x.rank(0, 10, 0, 0, 0), 2);
        Due.due("the other crate's on the first day", x.rank(1, 0, 0, 0, 0), 1);
    }

    private static PortRooms withPledges() {
        PortRooms x = withCrates(0, 0);
        x.pledge(0, 1, 300, 6, 20);
        x.pledge(1, 1, 999, 0, 0);
        x.pledge(0, 2, 500, 4, 10);
        x.pledge(0, 3, 300, 5, 20);
        x.pledge(0, 4, 900, 5, 15);
        x.pledge(0, 5, 500, 4, 30);
        return x;
    }

    private static void byTheLaw() {
        Due.says(0, "by the law of a land: 0 by FILED; 1 by SAID; 2 the greater sum first; 3 the latest FILED first;");
        PortRooms x = withPledges();
        int[][] want = {{2, 4, 0, 3, 5}, {2, 5, 3, 4, 0}, {4, 2, 5, 0, 3}, {5, 0, 3, 4, 2}};
        for (int land = 0; land < 4; land++) {
            for (int i = 0; i < 5; i++) {
                Due.due("land " + land + ", " + i, x.rank(0, 30, land, i, 0), want[land][i]);
            }
        }
        Due.range("land", 0, 3, v -> withPledges().rank(0, 30, v, 0, 0));
    }

    private static void likeOnes() {
        Due.says(0, "of like ones as they were told.");
        for (int land = 0; land < 4; land++) {
            PortRooms x = withCrates(0);
            for (int k = 0; k < 40; k++) {
                x.pledge(0, 9 - k % 10, 7, 3, 5);
            }
            for (int k = 0; k < 40; k++) {
                Due.due("land " + land + ", " + k, x.rank(0, 5, land, k, 0), k);
            }
        }
        PortRooms y = withCrates(0);
        y.pledge(0, 0, 1, 4, 9);
        y.pledge(0, 0, 2, 3, 9);
        Due.due("by filed alone", y.rank(0, 9, 0, 0, 0), 0);
        Due.due("by the latest filed alone", y.rank(0, 9, 3, 0, 0), 0);
        Due.due("by said", y.rank(0, 9, 1, 0, 0), 1);
    }

    private static void paidAsFarAsThereIsAny() {
        Due.says(0, "PAID: of the CRATE's worth by RANK each its sum, as far as there is any.");
        PortRooms x = withPledges();
        int[][] want = {{500, 500, 0, 0, 0}, {500, 500, 0, 0, 0}, {900, 100, 0, 0, 0}, {500, 300, 200, 0, 0}};
        for (int land = 0; land < 4; land++) {
            for (int i = 0; i < 5; i++) {
                Due.due("land " + land + ", " + i, x.rank(0, 30, land, i, 1), want[land][i]);
            }
        }
        Due.due("as known a day earlier", x.rank(0, 29, 3, 0, 1), 300);
        PortRooms y = withCrates(0, 0, 0);
        y.pledge(0, 0, 999, 0, 0);
        y.pledge(1, 0, 1000, 0, 0);
        y.pledge(2, 0, 1001, 0, 0);
        Due.due("less than the worth", y.rank(0, 0, 0, 0, 1), 999);
        Due.due("just the worth", y.rank(1, 0, 0, 0, 1), 1000);
        Due.due("more than the worth", y.rank(2, 0, 0, 0, 1), 1000);
        y.pledge(0, 0, 100000, 0, 0);
        y.pledge(1, 0, 1, 0, 0);
        Due.due("what is left", y.rank(0, 0, 0, 1, 1), 1);
        Due.due("nothing is left", y.rank(1, 0, 0, 1, 1), 0);
        PortRooms z = new PortRooms(0);
        z.crate(0, 100000);
        for (int k = 0; k < 40; k++) {
            z.pledge(0, 0, 100000, 0, 0);
        }
        Due.due("forty of the most, the first", z.rank(0, 0, 0, 0, 1), 100000);
        Due.due("forty of the most, the last", z.rank(0, 0, 0, 39, 1), 0);
    }

    private static void crate() {
        Due.says(12, "A CRATE: its number.");
        PortRooms x = new PortRooms(0);
        Due.due("the first", x.crate(0, 1), 0);
        Due.due("like it", x.crate(0, 1), 1);
        Due.due("another one", x.crate(19, 100000), 2);
        Due.due("count", x.count(2), 3);
    }

    private static void crateRefused() {
        Due.says(12, "BAD: OWNER, worth; FULL: 12.");
        Due.range("owner", 0, 19, v -> new PortRooms(0).crate(v, 1));
        Due.range("worth", 1, 100000, v -> new PortRooms(0).crate(0, v));
        PortRooms x = new PortRooms(0);
        for (int k = 0; k < 12; k++) {
            Due.due("number " + k, x.crate(0, 5), k);
        }
        Due.due("the 13th", x.crate(0, 5), FULL);
        Due.due("BAD owner ahead of FULL", x.crate(20, 5), BAD);
        Due.due("BAD worth ahead of FULL", x.crate(0, 0), BAD);
        Due.due("count", x.count(2), 12);
    }

    private static void paper() {
        Due.says(13, "A PAPER: how many there are.");
        PortRooms x = withCrates(0, 0);
        Due.due("the first", x.paper(0, 0, 19, 5, 5), 1);
        Due.due("not by its owner", x.paper(1, 7, 0, 0, 9999), 2);
        Due.due("one told twice is two", x.paper(1, 7, 0, 0, 9999), 3);
        Due.due("count", x.count(3), 3);
    }

    private static void paperRefused() {
        Due.says(13, "BAD: CRATE, from, to (unlike), days; FULL: 40.");
        Due.range("crate", 0, 1, v -> withCrates(0, 0).paper(v, 0, 1, 0, 0));
        Due.due("no crate yet", new PortRooms(0).paper(0, 0, 1, 0, 0), BAD);
        Due.due("from below", withCrates(0).paper(0, -1, 1, 0, 0), BAD);
        Due.due("from above", withCrates(0).paper(0, 20, 1, 0, 0), BAD);
        Due.due("to below", withCrates(0).paper(0, 0, -1, 0, 0), BAD);
        Due.due("to above", withCrates(0).paper(0, 0, 20, 0, 0), BAD);
        Due.due("like ones", withCrates(0).paper(0, 5, 5, 0, 0), BAD);
        Due.due("both below", withCrates(0).paper(0, -1, -1, 0, 0), BAD);
        Due.range("said", 0, 9999, v -> withCrates(0).paper(0, 0, 1, v, 9999));
        Due.range("filed", 7, 9999, v -> withCrates(0).paper(0, 0, 1, 7, v));
        PortRooms x = withCrates(0);
        for (int k = 1; k <= 40; k++) {
            Due.due("the " + k, x.paper(0, 0, 1, 9999, 9999), k);
        }
        Due.due("the 41st", x.paper(0, 0, 4, 0, 0), FULL);
        Due.due("BAD ahead of FULL: crate", x.paper(1, 0, 4, 0, 0), BAD);
        Due.due("BAD ahead of FULL: like ones", x.paper(0, 19, 19, 0, 0), BAD);
        Due.due("BAD ahead of FULL: days", x.paper(0, 0, 4, 1, 0), BAD);
        Due.due("count", x.count(3), 40);
        Due.due("the 41st is not kept", x.owner(0, 0, 0), 0);
    }

    private static void owner() {
        Due.says(14, "OWNER of a CRATE on a day, AS KNOWN on another one.");
        PortRooms x = withCrates(0, 5);
        x.paper(0, 0, 1, 10, 20);
        x.paper(1, 5, 6, 3, 3);
        Due.due("on 9 as known on 20", x.owner(0, 9, 20), 0);
        Due.due("on 10 as known on 19", x.owner(0, 10, 19), 0);
        Due.due("on 10 as known on 20", x.owner(0, 10, 20), 1);
        Due.due("on the last as known on the first day", x.owner(0, 9999, 0), 0);
        Due.due("on the first as known on the last day", x.owner(0, 0, 9999), 0);
        Due.due("the other crate's", x.owner(1, 3, 3), 6);
    }

    private static void ownerRefused() {
        Due.says(14, "BAD.");
        Due.range("crate", 0, 1, v -> withCrates(0, 0).owner(v, 0, 0));
        Due.range("crate of twelve", 0, 11, v -> withCrates(0, 0, 0, 0, 0, 0, 0, 0, 0, 0, 0, 0).owner(v, 0, 0));
        Due.range("day", 0, 9999, v -> withCrates(0).owner(0, v, 0));
        Due.range("known", 0, 9999, v -> withCrates(0).owner(0, 0, v));
        Due.due("no crate yet", new PortRooms(0).owner(0, 0, 0), BAD);
    }

    private static void quarrels() {
        Due.says(15, "QUARRELS of a CRATE, AS KNOWN on a day.");
        PortRooms x = withCrates(0, 1);
        Due.due("none told", x.quarrels(0, 9999), 0);
        for (int k = 0; k < 40; k++) {
            x.paper(k == 0 ? 1 : 0, 2, 3, k, 100 + k);
        }
        Due.due("none known", x.quarrels(0, 100), 0);
        Due.due("one known", x.quarrels(0, 101), 1);
        Due.due("all known", x.quarrels(0, 139), 39);
        Due.due("the other crate's", x.quarrels(1, 100), 1);
    }

    private static void quarrelsRefused() {
        Due.says(15, "BAD.");
        Due.range("crate", 0, 1, v -> withCrates(0, 0).quarrels(v, 0));
        Due.range("day", 0, 9999, v -> withCrates(0).quarrels(0, v));
        Due.due("no crate yet", new PortRooms(0).quarrels(0, 0), BAD);
    }

    private static void pledge() {
        Due.says(16, "A PLEDGE: its number.");
        PortRooms x = withCrates(0, 0);
        Due.due("the first", x.pledge(1, 0, 1, 0, 0), 0);
        Due.due("of the other crate", x.pledge(0, 9, 100000, 9999, 9999), 1);
        Due.due("one told twice is two", x.pledge(0, 9, 100000, 9999, 9999), 2);
        Due.due("count", x.count(4), 3);
    }

    private static void pledgeRefused() {
        Due.says(16, "BAD: CRATE, person, sum, days; FULL: 40.");
        Due.range("crate", 0, 1, v -> withCrates(0, 0).pledge(v, 0, 1, 0, 0));
        Due.due("no crate yet", new PortRooms(0).pledge(0, 0, 1, 0, 0), BAD);
        Due.range("person", 0, 9, v -> withCrates(0).pledge(0, v, 1, 0, 0));
        Due.range("sum", 1, 100000, v -> withCrates(0).pledge(0, 0, v, 0, 0));
        Due.range("said", 0, 7, v -> withCrates(0).pledge(0, 0, 1, v, 7));
        Due.range("filed", 7, 9999, v -> withCrates(0).pledge(0, 0, 1, 7, v));
        PortRooms x = withCrates(0);
        for (int k = 0; k < 40; k++) {
            Due.due("number " + k, x.pledge(0, 0, 1, 0, 0), k);
        }
        Due.due("the 41st", x.pledge(0, 9, 1, 0, 0), FULL);
        Due.due("BAD ahead of FULL: crate", x.pledge(1, 0, 1, 0, 0), BAD);
        Due.due("BAD ahead of FULL: person", x.pledge(0, 10, 1, 0, 0), BAD);
        Due.due("BAD ahead of FULL: sum", x.pledge(0, 0, 0, 0, 0), BAD);
        Due.due("BAD ahead of FULL: days", x.pledge(0, 0, 1, 1, 0), BAD);
        Due.due("count", x.count(4), 40);
    }

    private static void rank() {
        Due.says(17, "The i-th PLEDGE of a CRATE by RANK, AS KNOWN on a day, by the law of a land (0 to 3): "
            + "its number (what = 0), what it is PAID (1);");
        PortRooms x = withPledges();
        Due.due("number", x.rank(0, 20, 2, 0, 0), 4);
        Due.due("paid", x.rank(0, 20, 2, 0, 1), 900);
        Due.due("the next one's number", x.rank(0, 20, 2, 1, 0), 2);
        Due.due("the next one is paid", x.rank(0, 20, 2, 1, 1), 100);
        Due.due("the other crate's number", x.rank(1, 20, 2, 0, 0), 1);
        Due.due("the other crate's is paid", x.rank(1, 20, 2, 0, 1), 999);
    }

    private static void notSoMany() {
        Due.says(17, "NONE: there are not so many.");
        PortRooms x = withPledges();
        for (int land = 0; land < 4; land++) {
            for (int what = 0; what < 2; what++) {
                Due.due("the last", x.rank(0, 30, land, 4, what) == NONE ? 1 : 0, 0);
                Due.due("behind the last", x.rank(0, 30, land, 5, what), NONE);
                Due.due("as known a day earlier", x.rank(0, 29, land, 4, what), NONE);
                Due.due("far behind", x.rank(0, 30, land, FAR, what), NONE);
                Due.due("none known", x.rank(0, 9, land, 0, what), NONE);
            }
        }
        PortRooms y = withCrates(0);
        Due.due("none told", y.rank(0, 0, 0, 0, 0), NONE);
        for (int k = 0; k < 40; k++) {
            y.pledge(0, 0, 1, 0, 0);
        }
        Due.due("the last of forty", y.rank(0, 0, 0, 39, 0), 39);
        Due.due("behind forty", y.rank(0, 0, 0, 40, 0), NONE);
    }

    private static void rankRefused() {
        Due.says(17, "BAD.");
        Due.range("crate", 0, 1, v -> withPledges().rank(v, 30, 0, 0, 0));
        Due.range("known", 0, 9999, v -> withPledges().rank(0, v, 0, 0, 0));
        Due.range("land", 0, 3, v -> withPledges().rank(0, 30, v, 0, 0));
        Due.range("what", 0, 1, v -> withPledges().rank(0, 30, 0, 0, v));
        Due.due("numbers go from 0 on", withPledges().rank(0, 30, 0, -1, 0), BAD);
        Due.due("far below", withPledges().rank(0, 30, 0, Integer.MIN_VALUE, 0), BAD);
        Due.due("BAD ahead of NONE", withPledges().rank(0, 30, 0, 9, 2), BAD);
        Due.due("no crate yet", new PortRooms(0).rank(0, 0, 0, 0, 0), BAD);
    }
}
