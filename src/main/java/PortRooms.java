import java.util.Arrays;

/** Crates in a freeport's rooms: who owns them, what is owed on them, and what may be asked of them. */
public final class PortRooms {
    public static final int NONE = -1000000, BAD = -1000001, STATE = -1000002, FULL = -1000003;

    private static final int FINDINGS = -1000010;
    private static final int NULL = 1, PLACE = 2, NOT_THAT_KIND = 3, SIZE = 4, STORE = 5;
    private static final int FAULTS = -1000100;

    private static final int SHEETS = 8, LANES = 3, MOST_ITEMS = 60, MOST_HOLDS = 15, HOLDING_ITEMS = 4;
    private static final int DAYS = 10000;
    private static final int PEOPLE = 10, COMPANIES = 10, OWNERS = 20;
    private static final int MOST_HOLDINGS = 40, MOST_CRATES = 12, MOST_PAPERS = 40, MOST_PLEDGES = 40;
    private static final int MOST_ACTS = 60, MOST_OPENED = 60, MOST_LISTS = 20, MOST_TRACE = 16;
    private static final int MOST_WORTH = 100000, MOST_INSURED = 1000000, MOST_LOT = 1000000;
    private static final int ROOMS = 6, LANDS = 4, ACT_KINDS = 4, MOST_ACT_DAYS = 999, MOST_LOOK_DAYS = 400;
    private static final int HUNDRED = 100, HALF_SHARE = 500000;
    private static final int CRATE = 0, OWED = 1, DEEP = 2, STOPPED = 3, CLEAN = 4, KINDS = 5;

    private final Sheets sheets = new Sheets();
    private final Holdings holdings = new Holdings();
    private final Crates crates = new Crates();
    private final Papers papers = new Papers();
    private final Pledges pledges = new Pledges();
    private final Duties duties = new Duties();
    private final Acts acts = new Acts();
    private final Looks looks;
    private final Openings openings = new Openings();
    private final Lists lists = new Lists();
    private final int[] trace = new int[MOST_TRACE];
    private int traced;
    private int today;
    private int latestFinding;

    public PortRooms(int seed) {
        looks = new Looks(seed);
    }

    // ---- sheets

    public int sheet(int sheet, int lane, int n) {
        if (!isBelow(sheet, SHEETS) || !isBelow(lane, LANES) || n > MOST_ITEMS) {
            return BAD;
        }
        if (n < 0) {
            return finding(SIZE);
        }
        sheets.lay(sheet, lane, n);
        return passed(n);
    }

    public int set(int sheet, int i, int v) {
        if (!isBelow(sheet, SHEETS)) {
            return BAD;
        }
        if (sheets.isMissing(sheet)) {
            return finding(NULL);
        }
        if (!sheets.hasPlaces(sheet, i, 1)) {
            return finding(PLACE);
        }
        return passed(sheets.put(sheet, i, v));
    }

    public int copy(int a, int i, int b, int j, int n) {
        if (!isBelow(a, SHEETS) || !isBelow(b, SHEETS)) {
            return BAD;
        }
        if (sheets.isMissing(a) || sheets.isMissing(b)) {
            return finding(NULL);
        }
        if (sheets.lane[a] != sheets.lane[b]) {
            return finding(STORE);
        }
        if (!sheets.hasPlaces(a, i, n) || !sheets.hasPlaces(b, j, n)) {
            return finding(PLACE);
        }
        System.arraycopy(sheets.items[a], i, sheets.items[b], j, n);
        return passed(n);
    }

    public int drop(int sheet) {
        if (!isBelow(sheet, SHEETS)) {
            return BAD;
        }
        if (sheets.isMissing(sheet)) {
            return finding(NULL);
        }
        int had = sheets.size[sheet];
        sheets.takeAway(sheet);
        return passed(had);
    }

    // ---- owners

    public int hold(int owner, int company, int percent, int day) {
        if (!isPair(owner, company) || !isFrom(percent, 0, HUNDRED) || !isDay(day)) {
            return BAD;
        }
        if (holdings.count >= MOST_HOLDINGS) {
            return FULL;
        }
        return holdings.tell(owner, company, percent, day);
    }

    public int holds(int sheet, int i, int n) {
        if (!isBelow(sheet, SHEETS) || !isFrom(n, 1, MOST_HOLDS)) {
            return BAD;
        }
        if (sheets.isMissing(sheet)) {
            return finding(NULL);
        }
        if (!sheets.hasPlaces(sheet, i, HOLDING_ITEMS * n)) {
            return finding(PLACE);
        }
        int[] item = sheets.items[sheet];
        int came = 0;
        for (int k = 0; k < n; k++) {
            int at = i + HOLDING_ITEMS * k;
            if (hold(item[at], item[at + 1], item[at + 2], item[at + 3]) > 0) {
                came++;
            }
        }
        return passed(came);
    }

    public int percent(int owner, int company, int day) {
        if (!isPair(owner, company) || !isDay(day)) {
            return BAD;
        }
        holdings.lookAt(day);
        return holdings.partOf(owner, company);
    }

    public int share(int person, int owner, int day) {
        if (!isPerson(person) || !isOwner(owner) || !isDay(day)) {
            return BAD;
        }
        holdings.lookAt(day);
        return holdings.shareOf(person, owner);
    }

    public int truly(int owner, int day) {
        if (!isOwner(owner) || !isDay(day)) {
            return BAD;
        }
        holdings.lookAt(day);
        int truest = NONE;
        int greatest = 0;
        for (int person = 0; person < PEOPLE; person++) {
            int has = holdings.shareOf(person, owner);
            if (has > greatest) {
                greatest = has;
                truest = person;
            }
        }
        return truest;
    }

    public int rings(int day) {
        if (!isDay(day)) {
            return BAD;
        }
        holdings.lookAt(day);
        int found = 0;
        for (int c = 0; c < COMPANIES; c++) {
            if (hasBit(holdings.reach[c], c)) {
                found |= 1 << c;
            }
        }
        return found;
    }

    // ---- crates, papers, pledges

    public int crate(int owner, int worth) {
        if (!isOwner(owner) || !isFrom(worth, 1, MOST_WORTH)) {
            return BAD;
        }
        if (crates.count >= MOST_CRATES) {
            return FULL;
        }
        return crates.tell(owner, worth);
    }

    public int paper(int crate, int from, int to, int said, int filed) {
        if (!isCrate(crate) || !isOwner(from) || !isOwner(to) || from == to || !areDays(said, filed)) {
            return BAD;
        }
        if (papers.count >= MOST_PAPERS) {
            return FULL;
        }
        return papers.tell(crate, from, to, said, filed);
    }

    public int owner(int crate, int day, int known) {
        if (!isCrate(crate) || !isDay(day) || !isDay(known)) {
            return BAD;
        }
        return papers.ownerOf(crate, crates.firstOwner[crate], day, known);
    }

    public int quarrels(int crate, int known) {
        if (!isCrate(crate) || !isDay(known)) {
            return BAD;
        }
        return papers.notGood(crate, crates.firstOwner[crate], known);
    }

    public int pledge(int crate, int person, int sum, int said, int filed) {
        if (!isCrate(crate) || !isPerson(person) || !isFrom(sum, 1, MOST_WORTH) || !areDays(said, filed)) {
            return BAD;
        }
        if (pledges.count >= MOST_PLEDGES) {
            return FULL;
        }
        return pledges.tell(crate, sum, said, filed);
    }

    public int rank(int crate, int known, int land, int i, int what) {
        if (!isCrate(crate) || !isDay(known) || !isBelow(land, LANDS) || i < 0 || !isBelow(what, 2)) {
            return BAD;
        }
        int ranked = pledges.putInOrder(crate, known, land);
        if (i >= ranked) {
            return NONE;
        }
        return what == 0 ? pledges.order[i] : pledges.paidTo(i, crates.worth[crate]);
    }

    // ---- duties, rooms

    public int feed(long w, int n) {
        if (!isFrom(n, 1, 8)) {
            return BAD;
        }
        if (duties.length + n > Duties.MOST_BYTES) {
            return FULL;
        }
        for (int k = n - 1; k >= 0; k--) {
            duties.take((byte) (w >>> (8 * k)));
        }
        return duties.length;
    }

    public int duties() {
        return duties.read();
    }

    public int fault() {
        return duties.latestFault;
    }

    public int act(int crate, int what, int day, int days) {
        if (!isCrate(crate) || !isBelow(what, ACT_KINDS) || !isDay(day) || !isFrom(days, 0, MOST_ACT_DAYS)) {
            return BAD;
        }
        if (acts.count >= MOST_ACTS) {
            return FULL;
        }
        return acts.tell(crate, what, day, days);
    }

    public int duty(int crate, int what) {
        if (!isCrate(crate) || !isBelow(what, 3)) {
            return BAD;
        }
        int act = acts.firstWaking(crate, duties);
        int line = act < 0 ? -1 : duties.lineFor(acts.what[act], acts.days[act]);
        if (line < 0) {
            return what == 0 ? 0 : NONE;
        }
        if (what == 0) {
            return crates.worth[crate] * duties.part[line] / HUNDRED;
        }
        return what == 1 ? acts.day[act] : line;
    }

    public int room(int room, int what, int v) {
        if (!isBelow(room, ROOMS) || !isBelow(what, 2) || !isFrom(v, 0, what == 0 ? MOST_CRATES : MOST_INSURED)) {
            return BAD;
        }
        int[] limit = what == 0 ? crates.air : crates.insured;
        int was = limit[room];
        limit[room] = v;
        return was;
    }

    public int move(int crate, int room) {
        if (!isCrate(crate) || (room != NONE && !isBelow(room, ROOMS))) {
            return BAD;
        }
        int was = crates.room[crate];
        if (was == room) {
            return STATE;
        }
        if (room != NONE && !crates.fits(crate, room)) {
            return FULL;
        }
        crates.room[crate] = room;
        return was;
    }

    public int inside(int room, int what) {
        if (!isBelow(room, ROOMS) || !isBelow(what, 3)) {
            return BAD;
        }
        int set = crates.setIn(room);
        if (what == 0) {
            return Integer.bitCount(set);
        }
        return what == 1 ? crates.worthsOf(set) : set;
    }

    // ---- looks, lists

    public int lot(int crate, int day, int n) {
        if (!isBelow(crate, MOST_CRATES) || !isDay(day) || !isFrom(n, 1, MOST_LOT)) {
            return BAD;
        }
        return (int) (looks.lotOf(crate, day) % n);
    }

    public int drawn(int day, int m) {
        if (!isDay(day) || !isFrom(m, 0, MOST_CRATES)) {
            return BAD;
        }
        int stored = crates.setInRooms();
        looks.drawLots(stored, day);
        int set = 0;
        for (int c = 0; c < MOST_CRATES; c++) {
            if (hasBit(stored, c) && looks.howManyAhead(stored, c) < m) {
                set |= 1 << c;
            }
        }
        return set;
    }

    public int often(int crate, int from, int to, int m) {
        if (!isCrate(crate) || !areDays(from, to) || to - from >= MOST_LOOK_DAYS || !isFrom(m, 0, MOST_CRATES)) {
            return BAD;
        }
        int stored = crates.setInRooms();
        if (!hasBit(stored, crate)) {
            return 0;
        }
        int times = 0;
        for (int day = from; day <= to; day++) {
            looks.drawLots(stored, day);
            if (looks.howManyAhead(stored, crate) < m) {
                times++;
            }
        }
        return times;
    }

    public int opened(int crate, int day, int weight, int marks) {
        if (!isCrate(crate) || !isDay(day) || !isFrom(weight, 1, MOST_WORTH) || !isFrom(marks, 0, 255)) {
            return BAD;
        }
        if (openings.count >= MOST_OPENED) {
            return FULL;
        }
        return openings.tell(crate, day, weight, marks);
    }

    public int verdict(int crate) {
        if (!isCrate(crate)) {
            return BAD;
        }
        return openings.worstOf(crate);
    }

    public int list(int person, int from, int to) {
        if (!isPerson(person) || !areDays(from, to)) {
            return BAD;
        }
        if (lists.count >= MOST_LISTS) {
            return FULL;
        }
        return lists.tell(person, from, to);
    }

    public int barred(int crate, int day) {
        if (!isCrate(crate) || !isDay(day)) {
            return BAD;
        }
        return isBarred(crate, day) ? 1 : 0;
    }

    // ---- asked

    public int day(int day) {
        if (!isDay(day)) {
            return BAD;
        }
        int was = today;
        today = day;
        return was;
    }

    public int kind(int crate) {
        return isCrate(crate) ? kindToday(crate) : BAD;
    }

    public int as(int crate, int kind) {
        if (!isCrate(crate) || !isBelow(kind, KINDS)) {
            return BAD;
        }
        if (!isOfKind(kindToday(crate), kind)) {
            return finding(NOT_THAT_KIND);
        }
        return passed(crates.worth[crate]);
    }

    public int ask(int crate, int what) {
        if (!isCrate(crate) || !isBelow(what, 2)) {
            return BAD;
        }
        traced = 0;
        int kind = kindToday(crate);
        return what == 0 ? askSize(crate, kind) : askMark(crate, kind);
    }

    public int trace(int i) {
        return isBelow(i, traced) ? trace[i] : NONE;
    }

    public int count(int what) {
        switch (what) {
            case 0: return sheets.howMany();
            case 1: return holdings.count;
            case 2: return crates.count;
            case 3: return papers.count;
            case 4: return pledges.count;
            case 5: return duties.lines;
            case 6: return acts.count;
            case 7: return openings.count;
            case 8: return lists.count;
            case 9: return duties.length;
            default: return BAD;
        }
    }

    public int status() {
        return latestFinding;
    }

    // ---- what numbers may be

    private static boolean isBelow(int v, int n) {
        return v >= 0 && v < n;
    }

    private static boolean isFrom(int v, int least, int most) {
        return v >= least && v <= most;
    }

    private static boolean isDay(int v) {
        return isBelow(v, DAYS);
    }

    private static boolean areDays(int early, int late) {
        return isDay(early) && isDay(late) && early <= late;
    }

    private static boolean isPerson(int v) {
        return isBelow(v, PEOPLE);
    }

    private static boolean isOwner(int v) {
        return isBelow(v, OWNERS);
    }

    private static boolean isPair(int owner, int company) {
        return isOwner(owner) && isOwner(company) && !isPerson(company) && owner != company;
    }

    private boolean isCrate(int v) {
        return isBelow(v, crates.count);
    }

    private static boolean hasBit(int set, int i) {
        return (set >>> i & 1) != 0;
    }

    // ---- findings

    private int finding(int number) {
        latestFinding = number;
        return FINDINGS - number;
    }

    private int passed(int answer) {
        latestFinding = 0;
        return answer;
    }

    // ---- kinds, and the bodies of asks

    private boolean isBarred(int crate, int day) {
        int listed = lists.peopleOn(day);
        if (listed == 0) {
            return false;
        }
        int owner = papers.ownerOf(crate, crates.firstOwner[crate], day, day);
        holdings.lookAt(day);
        // No share is below 0, so where one alone is enough, all together are enough too.
        long together = 0;
        for (int person = 0; person < PEOPLE; person++) {
            if (hasBit(listed, person)) {
                together += holdings.shareOf(person, owner);
            }
        }
        return together >= HALF_SHARE;
    }

    private int kindToday(int crate) {
        if (isBarred(crate, today)) {
            return STOPPED;
        }
        int owed = pledges.sumsOn(crate, today);
        if (owed > crates.worth[crate]) {
            return DEEP;
        }
        return owed > 0 ? OWED : CLEAN;
    }

    private static boolean isOfKind(int told, int kind) {
        return kind == CRATE || kind == told || (kind == OWED && told == DEEP);
    }

    private int askSize(int crate, int kind) {
        switch (kind) {
            case OWED: return sizeOfOwed(crate);
            case DEEP: return sizeOfDeep(crate);
            case STOPPED: return sizeOfStopped(crate);
            default: return sizeLent(crate);
        }
    }

    private int askMark(int crate, int kind) {
        switch (kind) {
            case OWED:
            case DEEP: return markOfOwed(crate);
            case STOPPED: return markOfStopped(crate);
            case CLEAN: return markOfClean(crate);
            default: return markLent(crate);
        }
    }

    private void leave(int body) {
        if (traced < MOST_TRACE) {
            trace[traced] = body;
            traced++;
        }
    }

    private int sizeLent(int crate) {
        leave(10);
        return crates.worth[crate];
    }

    private int sizeOfOwed(int crate) {
        leave(11);
        return sizeLent(crate) - pledges.sumsOn(crate, today);
    }

    private int sizeOfDeep(int crate) {
        leave(12);
        return sizeOfOwed(crate) / 2;
    }

    private int sizeOfStopped(int crate) {
        leave(13);
        // Asked anew it is still a stopped one.
        return -markOfStopped(crate);
    }

    private int markLent(int crate) {
        leave(20);
        return papers.ownerOf(crate, crates.firstOwner[crate], today, today);
    }

    private int markOfOwed(int crate) {
        leave(21);
        return markLent(crate) + 100;
    }

    private int markOfStopped(int crate) {
        leave(22);
        return markLent(crate) + 1000;
    }

    private int markOfClean(int crate) {
        leave(23);
        // Asked anew it is still a clean one, which has no size of its own.
        return markLent(crate) + sizeLent(crate);
    }

    /** Sheets are rows of one width, laid once and used again; the lane says which bits an item keeps. */
    private static final class Sheets {
        private static final int MISSING = -1, BYTES = 0, SHORTS = 1;

        final int[][] items = new int[SHEETS][MOST_ITEMS];
        final int[] lane = new int[SHEETS];
        final int[] size = new int[SHEETS];

        Sheets() {
            Arrays.fill(size, MISSING);
        }

        boolean isMissing(int sheet) {
            return size[sheet] == MISSING;
        }

        boolean hasPlaces(int sheet, int i, int n) {
            return i >= 0 && n >= 0 && i <= size[sheet] && n <= size[sheet] - i;
        }

        void lay(int sheet, int itsLane, int n) {
            Arrays.fill(items[sheet], 0);
            lane[sheet] = itsLane;
            size[sheet] = n;
        }

        int put(int sheet, int i, int v) {
            int kept = lane[sheet] == BYTES ? (byte) v : lane[sheet] == SHORTS ? (short) v : v;
            items[sheet][i] = kept;
            return kept;
        }

        void takeAway(int sheet) {
            size[sheet] = MISSING;
        }

        int howMany() {
            int n = 0;
            for (int k = 0; k < SHEETS; k++) {
                if (!isMissing(k)) {
                    n++;
                }
            }
            return n;
        }
    }

    /** Who has how much of which company; lookAt lays out one day, which the other questions are then about. */
    private static final class Holdings {
        private static final int WHOLE = 1000000;
        private static final long MOST_SHARE = 2000000000L;

        final int[] owner = new int[MOST_HOLDINGS];
        final int[] company = new int[MOST_HOLDINGS];
        final int[] percentage = new int[MOST_HOLDINGS];
        final int[] since = new int[MOST_HOLDINGS];
        int count;
        final int[] part = new int[OWNERS * COMPANIES];
        final int[] partSince = new int[OWNERS * COMPANIES];
        final int[] has = new int[OWNERS];
        final int[] reach = new int[COMPANIES];

        int tell(int itsOwner, int itsCompany, int percent, int day) {
            owner[count] = itsOwner;
            company[count] = itsCompany;
            percentage[count] = percent;
            since[count] = day;
            count++;
            return count;
        }

        private static int place(int owner, int company) {
            return owner * COMPANIES + company - PEOPLE;
        }

        void lookAt(int day) {
            Arrays.fill(part, 0);
            Arrays.fill(partSince, 0);
            for (int k = 0; k < count; k++) {
                int at = place(owner[k], company[k]);
                if (since[k] <= day && since[k] >= partSince[at]) {
                    part[at] = percentage[k];
                    partSince[at] = since[k];
                }
            }
            gatherWhoHas();
            closeReach();
        }

        private void gatherWhoHas() {
            Arrays.fill(has, 0);
            for (int k = 0; k < count; k++) {
                if (part[place(owner[k], company[k])] > 0) {
                    has[owner[k]] |= 1 << (company[k] - PEOPLE);
                }
            }
        }

        private void closeReach() {
            System.arraycopy(has, PEOPLE, reach, 0, COMPANIES);
            for (int by = 0; by < COMPANIES; by++) {
                for (int c = 0; c < COMPANIES; c++) {
                    if (hasBit(reach[c], by)) {
                        reach[c] |= reach[by];
                    }
                }
            }
        }

        int partOf(int itsOwner, int itsCompany) {
            return part[place(itsOwner, itsCompany)];
        }

        int shareOf(int person, int itsOwner) {
            if (itsOwner < PEOPLE) {
                return itsOwner == person ? WHOLE : 0;
            }
            int target = itsOwner - PEOPLE;
            long sum = along(this, person, target, WHOLE, leadingTo(target), 0);
            return (int) Math.min(sum, MOST_SHARE);
        }

        private int leadingTo(int target) {
            int set = 1 << target;
            for (int c = 0; c < COMPANIES; c++) {
                if (hasBit(reach[c], target)) {
                    set |= 1 << c;
                }
            }
            return set;
        }

        /**
         * What comes to the target over all rows of owners that go on from here through companies that are still free.
         * Shares cut at each step, so rows that meet again cannot be added before their end.
         */
        private static long along(Holdings day, int from, int target, int value, int free, int depth) {
            int next = day.has[from] & free;
            if (next == 0 || value == 0 || depth > COMPANIES) {
                return 0;
            }
            long sum = 0;
            for (int c = 0; c < COMPANIES && next >>> c != 0; c++) {
                if (hasBit(next, c)) {
                    int left = value * day.partOf(from, PEOPLE + c) / HUNDRED;
                    sum += c == target ? left : along(day, PEOPLE + c, target, left, free & ~(1 << c), depth + 1);
                }
            }
            return sum;
        }
    }

    /** Crates and the rooms they stand in. */
    private static final class Crates {
        private static final int FIRST_AIR = 4, FIRST_INSURED = 100000;

        final int[] firstOwner = new int[MOST_CRATES];
        final int[] worth = new int[MOST_CRATES];
        final int[] room = new int[MOST_CRATES];
        int count;
        final int[] air = new int[ROOMS];
        final int[] insured = new int[ROOMS];

        Crates() {
            Arrays.fill(room, NONE);
            Arrays.fill(air, FIRST_AIR);
            Arrays.fill(insured, FIRST_INSURED);
        }

        int tell(int owner, int itsWorth) {
            firstOwner[count] = owner;
            worth[count] = itsWorth;
            count++;
            return count - 1;
        }

        int setIn(int itsRoom) {
            int set = 0;
            for (int c = 0; c < count; c++) {
                if (room[c] == itsRoom) {
                    set |= 1 << c;
                }
            }
            return set;
        }

        int setInRooms() {
            int all = (1 << count) - 1;
            return all & ~setIn(NONE);
        }

        int worthsOf(int set) {
            int sum = 0;
            for (int c = 0; c < count; c++) {
                if (hasBit(set, c)) {
                    sum += worth[c];
                }
            }
            return sum;
        }

        boolean fits(int crate, int itsRoom) {
            int set = setIn(itsRoom);
            return Integer.bitCount(set) < air[itsRoom] && worthsOf(set) + worth[crate] <= insured[itsRoom];
        }
    }

    /** Papers as told, and their order by the days they are for, kept as each one comes. */
    private static final class Papers {
        final int[] crate = new int[MOST_PAPERS];
        final int[] from = new int[MOST_PAPERS];
        final int[] to = new int[MOST_PAPERS];
        final int[] said = new int[MOST_PAPERS];
        final int[] filed = new int[MOST_PAPERS];
        final int[] order = new int[MOST_PAPERS];
        int count;

        int tell(int itsCrate, int itsFrom, int itsTo, int itsSaid, int itsFiled) {
            crate[count] = itsCrate;
            from[count] = itsFrom;
            to[count] = itsTo;
            said[count] = itsSaid;
            filed[count] = itsFiled;
            int at = count;
            while (at > 0 && isAhead(count, order[at - 1])) {
                order[at] = order[at - 1];
                at--;
            }
            order[at] = count;
            count++;
            return count;
        }

        private boolean isAhead(int p, int q) {
            return said[p] < said[q] || (said[p] == said[q] && filed[p] < filed[q]);
        }

        private boolean isKnown(int p, int itsCrate, int known) {
            return crate[p] == itsCrate && filed[p] <= known;
        }

        int ownerOf(int itsCrate, int firstOwner, int day, int known) {
            int owner = firstOwner;
            for (int k = 0; k < count; k++) {
                int p = order[k];
                if (isKnown(p, itsCrate, known) && said[p] <= day && from[p] == owner) {
                    owner = to[p];
                }
            }
            return owner;
        }

        int notGood(int itsCrate, int firstOwner, int known) {
            int owner = firstOwner;
            int bad = 0;
            for (int k = 0; k < count; k++) {
                int p = order[k];
                if (!isKnown(p, itsCrate, known)) {
                    continue;
                }
                if (from[p] == owner) {
                    owner = to[p];
                } else {
                    bad++;
                }
            }
            return bad;
        }
    }

    /** Pledges as told; putInOrder lays out one rank, which paidTo is then about. The lender is never asked for. */
    private static final class Pledges {
        private static final int BY_FILED = 0, BY_SAID = 1, BY_SUM = 2;

        final int[] crate = new int[MOST_PLEDGES];
        final int[] sum = new int[MOST_PLEDGES];
        final int[] said = new int[MOST_PLEDGES];
        final int[] filed = new int[MOST_PLEDGES];
        int count;
        final int[] order = new int[MOST_PLEDGES];

        int tell(int itsCrate, int itsSum, int itsSaid, int itsFiled) {
            crate[count] = itsCrate;
            sum[count] = itsSum;
            said[count] = itsSaid;
            filed[count] = itsFiled;
            count++;
            return count - 1;
        }

        private boolean isKnown(int p, int itsCrate, int known) {
            return crate[p] == itsCrate && filed[p] <= known;
        }

        int sumsOn(int itsCrate, int known) {
            int all = 0;
            for (int p = 0; p < count; p++) {
                if (isKnown(p, itsCrate, known)) {
                    all += sum[p];
                }
            }
            return all;
        }

        int putInOrder(int itsCrate, int known, int land) {
            int ranked = 0;
            for (int p = 0; p < count; p++) {
                if (isKnown(p, itsCrate, known)) {
                    putBehind(ranked, p, land);
                    ranked++;
                }
            }
            return ranked;
        }

        private void putBehind(int ranked, int p, int land) {
            int at = ranked;
            while (at > 0 && isAhead(p, order[at - 1], land)) {
                order[at] = order[at - 1];
                at--;
            }
            order[at] = p;
        }

        private boolean isAhead(int p, int q, int land) {
            switch (land) {
                case BY_FILED: return filed[p] < filed[q];
                case BY_SAID: return said[p] < said[q];
                case BY_SUM: return sum[p] > sum[q];
                default: return filed[p] > filed[q];
            }
        }

        int paidTo(int i, int worth) {
            int left = worth;
            for (int k = 0; k < i; k++) {
                left -= Math.min(left, sum[order[k]]);
            }
            return Math.min(left, sum[order[i]]);
        }
    }

    /** The tape, its reader, and the lines that were read from it last without a fault. */
    private static final class Duties {
        private static final int MOST_BYTES = 300, MOST_LINES = 12, MOST_LETTERS = 6, MOST_FIGURES = 4;
        /** Five words of six places each; a word's number is the token that it is. */
        private static final String WORDS = "sold  shown out   mendedpart  ";
        private static final int PART = 4, NUMBER = 5, END_OF_LINE = 6, MORE_THAN = 7, END = 8, NO_TOKEN = 9;
        private static final int OUT_OF_PLACE = 1, PART_ABOVE = 2, LINE_TOO_MANY = 3;
        private static final int ANY_DAYS = -1;

        final byte[] tape = new byte[MOST_BYTES];
        int length;
        int latestFault;
        final int[] what = new int[MOST_LINES];
        final int[] days = new int[MOST_LINES];
        final int[] part = new int[MOST_LINES];
        int lines;
        final int[] draftWhat = new int[MOST_LINES];
        final int[] draftDays = new int[MOST_LINES];
        final int[] draftPart = new int[MOST_LINES];
        int drafted;
        int start;
        int end;
        int token;
        int number;

        void take(byte b) {
            if (length < MOST_BYTES) {
                tape[length] = b;
                length++;
            }
        }

        int read() {
            end = 0;
            drafted = 0;
            next();
            int found = 0;
            // One line more than may stand: it is the one that has the fault.
            for (int k = 0; k <= MOST_LINES && token != END && found == 0; k++) {
                found = readAct();
                if (found == 0) {
                    found = readPart();
                }
            }
            length = 0;
            if (found != 0) {
                latestFault = found;
                return FAULTS - start;
            }
            keepDraft();
            return lines;
        }

        private void keepDraft() {
            System.arraycopy(draftWhat, 0, what, 0, drafted);
            System.arraycopy(draftDays, 0, days, 0, drafted);
            System.arraycopy(draftPart, 0, part, 0, drafted);
            lines = drafted;
        }

        /** Reads a line's act into the draft: 0, or the fault of the token that stands at start. */
        private int readAct() {
            if (token >= PART) {
                return OUT_OF_PLACE;
            }
            if (drafted >= MOST_LINES) {
                return LINE_TOO_MANY;
            }
            draftWhat[drafted] = token;
            draftDays[drafted] = ANY_DAYS;
            next();
            if (token == MORE_THAN) {
                next();
                if (token != NUMBER) {
                    return OUT_OF_PLACE;
                }
                draftDays[drafted] = number;
                next();
            }
            return 0;
        }

        /** Reads the rest of the line, likewise. */
        private int readPart() {
            if (token != PART) {
                return OUT_OF_PLACE;
            }
            next();
            if (token != NUMBER) {
                return OUT_OF_PLACE;
            }
            if (number > HUNDRED) {
                return PART_ABOVE;
            }
            draftPart[drafted] = number;
            next();
            if (token != END_OF_LINE) {
                return OUT_OF_PLACE;
            }
            drafted++;
            next();
            return 0;
        }

        private void next() {
            start = end;
            while (start < length && (tape[start] == ' ' || tape[start] == '\n')) {
                start++;
            }
            end = start;
            if (start >= length) {
                token = END;
            } else if (isLetter(tape[start])) {
                readName();
            } else if (isFigure(tape[start])) {
                readNumber();
            } else {
                token = tape[start] == ';' ? END_OF_LINE : tape[start] == '>' ? MORE_THAN : NO_TOKEN;
                end++;
            }
        }

        private static boolean isLetter(int b) {
            return b >= 'a' && b <= 'z';
        }

        private static boolean isFigure(int b) {
            return b >= '0' && b <= '9';
        }

        private void readName() {
            while (end < length && isLetter(tape[end])) {
                end++;
            }
            token = NO_TOKEN;
            if (end - start > MOST_LETTERS) {
                return;
            }
            for (int word = 0; word <= PART; word++) {
                if (isWord(word)) {
                    token = word;
                }
            }
        }

        private boolean isWord(int word) {
            for (int k = 0; k < MOST_LETTERS; k++) {
                int letter = start + k < end ? tape[start + k] : ' ';
                if (letter != WORDS.charAt(word * MOST_LETTERS + k)) {
                    return false;
                }
            }
            return true;
        }

        private void readNumber() {
            number = 0;
            while (end < length && isFigure(tape[end])) {
                // Figures beyond the most make it no number, and must not run over.
                if (end - start < MOST_FIGURES) {
                    number = number * 10 + tape[end] - '0';
                }
                end++;
            }
            token = end - start > MOST_FIGURES ? NO_TOKEN : NUMBER;
        }

        /** The first line that such an act wakes; -1 where none is. */
        int lineFor(int act, int actDays) {
            for (int k = 0; k < lines; k++) {
                if (what[k] == act && actDays > days[k]) {
                    return k;
                }
            }
            return -1;
        }
    }

    private static final class Acts {
        final int[] crate = new int[MOST_ACTS];
        final int[] what = new int[MOST_ACTS];
        final int[] day = new int[MOST_ACTS];
        final int[] days = new int[MOST_ACTS];
        int count;

        int tell(int itsCrate, int itsWhat, int itsDay, int itsDays) {
            crate[count] = itsCrate;
            what[count] = itsWhat;
            day[count] = itsDay;
            days[count] = itsDays;
            count++;
            return count;
        }

        /** The first act of a crate, by days, that wakes a duty; -1 where none does. */
        int firstWaking(int itsCrate, Duties duties) {
            int first = -1;
            for (int k = 0; k < count; k++) {
                boolean isEarlier = first < 0 || day[k] < day[first];
                if (crate[k] == itsCrate && isEarlier && duties.lineFor(what[k], days[k]) >= 0) {
                    first = k;
                }
            }
            return first;
        }
    }

    /** Lots of crates; drawLots lays out one day, which howManyAhead is then about. */
    private static final class Looks {
        private static final long CRATE_STEP = 1000003L, DAY_STEP = 8191L;
        private static final long FIRST_FACTOR = -7046029254386353131L, SECOND_FACTOR = -4658895280553007687L;
        private static final long WITHOUT_SIGN = 0x7fffffffffffffffL;

        final int seed;
        final long[] lots = new long[MOST_CRATES];

        Looks(int itsSeed) {
            seed = itsSeed;
        }

        long lotOf(int crate, int day) {
            long z = seed + crate * CRATE_STEP + day * DAY_STEP;
            z *= FIRST_FACTOR;
            z ^= z >>> 29;
            z *= SECOND_FACTOR;
            z ^= z >>> 32;
            return z & WITHOUT_SIGN;
        }

        void drawLots(int set, int day) {
            for (int c = 0; c < MOST_CRATES; c++) {
                if (hasBit(set, c)) {
                    lots[c] = lotOf(c, day);
                }
            }
        }

        int howManyAhead(int set, int crate) {
            int ahead = 0;
            for (int c = 0; c < MOST_CRATES; c++) {
                if (hasBit(set, c) && (lots[c] < lots[crate] || (lots[c] == lots[crate] && c < crate))) {
                    ahead++;
                }
            }
            return ahead;
        }
    }

    private static final class Openings {
        private static final int SAME = 0, DOUBT = 1, SWAPPED = 2;
        private static final int SAME_WEIGHT = 10, DOUBTED_WEIGHT = 100, SWAPPED_MARKS = 2;

        final int[] crate = new int[MOST_OPENED];
        final int[] day = new int[MOST_OPENED];
        final int[] weight = new int[MOST_OPENED];
        final int[] marks = new int[MOST_OPENED];
        int count;

        int tell(int itsCrate, int itsDay, int itsWeight, int itsMarks) {
            crate[count] = itsCrate;
            day[count] = itsDay;
            weight[count] = itsWeight;
            marks[count] = itsMarks;
            count++;
            return count;
        }

        int worstOf(int itsCrate) {
            int first = firstOf(itsCrate);
            if (first < 0) {
                return SAME;
            }
            int worst = SAME;
            for (int k = 0; k < count; k++) {
                // The first one is the same as itself, so it need not be left out.
                if (crate[k] == itsCrate) {
                    worst = Math.max(worst, compared(first, k));
                }
            }
            return worst;
        }

        private int firstOf(int itsCrate) {
            int first = -1;
            for (int k = 0; k < count; k++) {
                if (crate[k] == itsCrate && (first < 0 || day[k] < day[first])) {
                    first = k;
                }
            }
            return first;
        }

        private int compared(int first, int later) {
            int away = Math.abs(weight[later] - weight[first]);
            int missing = Integer.bitCount(marks[first] & ~marks[later]);
            if (away > DOUBTED_WEIGHT || missing >= SWAPPED_MARKS) {
                return SWAPPED;
            }
            return away <= SAME_WEIGHT && missing == 0 ? SAME : DOUBT;
        }
    }

    private static final class Lists {
        final int[] person = new int[MOST_LISTS];
        final int[] from = new int[MOST_LISTS];
        final int[] to = new int[MOST_LISTS];
        int count;

        int tell(int itsPerson, int itsFrom, int itsTo) {
            person[count] = itsPerson;
            from[count] = itsFrom;
            to[count] = itsTo;
            count++;
            return count;
        }

        int peopleOn(int day) {
            int set = 0;
            for (int k = 0; k < count; k++) {
                if (from[k] <= day && day <= to[k]) {
                    set |= 1 << person[k];
                }
            }
            return set;
        }
    }
}
