import java.math.BigInteger;
import java.util.ArrayList;
import java.util.Arrays;
import java.util.Comparator;
import java.util.HashSet;
import java.util.List;
import java.util.Map;
import java.util.Set;
import java.util.TreeMap;
import java.util.regex.Matcher;
import java.util.regex.Pattern;

/** The document said once more with the Java library, slow and literal: what random runs are compared with. */
final class PlainPort {
    private static final int NONE = -1000000, BAD = -1000001, STATE = -1000002, FULL = -1000003;

    private record Holding(int owner, int company, int percent, int day) { }

    private record Crate(int owner, int worth) { }

    private record Paper(int crate, int from, int to, int said, int filed) { }

    private record Pledge(int number, int crate, int sum, int said, int filed) { }

    private record Line(int what, Integer more, int part) { }

    private record Act(int crate, int what, int day, int days) { }

    private record Opened(int crate, int day, int weight, int marks) { }

    private record Listed(int person, int from, int to) { }

    private final int seed;
    private final Map<Integer, int[]> items = new TreeMap<>();
    private final Map<Integer, Integer> lanes = new TreeMap<>();
    private final List<Holding> holdings = new ArrayList<>();
    private final List<Crate> crates = new ArrayList<>();
    private final List<Paper> papers = new ArrayList<>();
    private final List<Pledge> pledges = new ArrayList<>();
    private final StringBuilder tape = new StringBuilder();
    private List<Line> lines = new ArrayList<>();
    private int fault;
    private final List<Act> acts = new ArrayList<>();
    private final int[] air = {4, 4, 4, 4, 4, 4};
    private final int[] insured = {100000, 100000, 100000, 100000, 100000, 100000};
    private final Map<Integer, Integer> rooms = new TreeMap<>();
    private final List<Opened> openings = new ArrayList<>();
    private final List<Listed> lists = new ArrayList<>();
    private int today;
    private List<Integer> trace = new ArrayList<>();
    private int status;

    PlainPort(int seed) {
        this.seed = seed;
    }

    private static boolean in(int v, int least, int most) {
        return least <= v && v <= most;
    }

    private static boolean day0(int v) {
        return in(v, 0, 9999);
    }

    private boolean there(int crate) {
        return in(crate, 0, crates.size() - 1);
    }

    private int found(int number) {
        status = number;
        return -1000010 - number;
    }

    private int fine(int answer) {
        status = 0;
        return answer;
    }

    int sheet(int sheet, int lane, int n) {
        if (!in(sheet, 0, 7) || !in(lane, 0, 2) || n > 60) return BAD;
        if (n < 0) return found(4);
        items.put(sheet, new int[n]);
        lanes.put(sheet, lane);
        return fine(n);
    }

    int set(int sheet, int i, int v) {
        if (!in(sheet, 0, 7)) return BAD;
        if (!items.containsKey(sheet)) return found(1);
        int[] row = items.get(sheet);
        if (!in(i, 0, row.length - 1)) return found(2);
        int shift = 32 - (8 << lanes.get(sheet));
        row[i] = v << shift >> shift;
        return fine(row[i]);
    }

    int copy(int a, int i, int b, int j, int n) {
        if (!in(a, 0, 7) || !in(b, 0, 7)) return BAD;
        if (!items.containsKey(a) || !items.containsKey(b)) return found(1);
        if (!lanes.get(a).equals(lanes.get(b))) return found(5);
        int[] from = items.get(a).clone(), to = items.get(b);
        if (i < 0 || j < 0 || n < 0 || (long) i + n > from.length || (long) j + n > to.length) return found(2);
        for (int k = 0; k < n; k++) to[j + k] = from[i + k];
        return fine(n);
    }

    int drop(int sheet) {
        if (!in(sheet, 0, 7)) return BAD;
        if (!items.containsKey(sheet)) return found(1);
        lanes.remove(sheet);
        return fine(items.remove(sheet).length);
    }

    int hold(int owner, int company, int percent, int day) {
        if (!in(owner, 0, 19) || !in(company, 10, 19) || owner == company || !in(percent, 0, 100) || !day0(day)) return BAD;
        if (holdings.size() == 40) return FULL;
        holdings.add(new Holding(owner, company, percent, day));
        return holdings.size();
    }

    int holds(int sheet, int i, int n) {
        if (!in(sheet, 0, 7) || !in(n, 1, 15)) return BAD;
        if (!items.containsKey(sheet)) return found(1);
        int[] row = items.get(sheet);
        if (i < 0 || i + 4L * n > row.length) return found(2);
        int before = holdings.size();
        for (int k = i; k < i + 4 * n; k += 4) hold(row[k], row[k + 1], row[k + 2], row[k + 3]);
        return fine(holdings.size() - before);
    }

    private int has(int owner, int company, int day) {
        Holding latest = null;
        for (Holding h : holdings) {
            boolean isMeant = h.owner == owner && h.company == company && h.day <= day;
            if (isMeant && (latest == null || h.day >= latest.day)) latest = h;
        }
        return latest == null ? 0 : latest.percent;
    }

    int percent(int owner, int company, int day) {
        if (!in(owner, 0, 19) || !in(company, 10, 19) || owner == company || !day0(day)) return BAD;
        return has(owner, company, day);
    }

    /** Rows are gathered from the company back to the person, and each is counted from the person on. */
    private long rowsBack(int person, List<Integer> row, int[][] has) {
        int head = row.get(0);
        if (head == person) {
            long v = 1000000;
            for (int k = 1; k < row.size(); k++) v = v * has[row.get(k - 1)][row.get(k)] / 100;
            return v;
        }
        long sum = 0;
        for (int owner = 0; owner < 20; owner++) {
            if ((owner == person || owner > 9) && !row.contains(owner) && has[owner][head] >= 1) {
                row.add(0, owner);
                sum += rowsBack(person, row, has);
                row.remove(0);
            }
        }
        return sum;
    }

    private int shareOn(int person, int owner, int day) {
        if (owner < 10) return person == owner ? 1000000 : 0;
        int[][] has = new int[20][20];
        for (Holding h : holdings) has[h.owner][h.company] = has(h.owner, h.company, day);
        return (int) Math.min(2000000000L, rowsBack(person, new ArrayList<>(List.of(owner)), has));
    }

    int share(int person, int owner, int day) {
        if (!in(person, 0, 9) || !in(owner, 0, 19) || !day0(day)) return BAD;
        return shareOn(person, owner, day);
    }

    int truly(int owner, int day) {
        if (!in(owner, 0, 19) || !day0(day)) return BAD;
        TreeMap<Integer, Integer> byShare = new TreeMap<>();
        for (int person = 9; person >= 0; person--) byShare.put(shareOn(person, owner, day), person);
        return byShare.lastKey() == 0 ? NONE : byShare.lastEntry().getValue();
    }

    private boolean comesBack(int start, int at, Set<Integer> seen, int day) {
        for (int c = 10; c < 20; c++) {
            if (has(at, c, day) >= 1 && (c == start || (seen.add(c) && comesBack(start, c, seen, day)))) return true;
        }
        return false;
    }

    int rings(int day) {
        if (!day0(day)) return BAD;
        int set = 0;
        for (int c = 10; c < 20; c++) if (comesBack(c, c, new HashSet<>(), day)) set += 1 << c - 10;
        return set;
    }

    int crate(int owner, int worth) {
        if (!in(owner, 0, 19) || !in(worth, 1, 100000)) return BAD;
        if (crates.size() == 12) return FULL;
        crates.add(new Crate(owner, worth));
        return crates.size() - 1;
    }

    int paper(int crate, int from, int to, int said, int filed) {
        if (!there(crate) || !in(from, 0, 19) || !in(to, 0, 19) || from == to) return BAD;
        if (!day0(said) || !day0(filed) || filed < said) return BAD;
        if (papers.size() == 40) return FULL;
        papers.add(new Paper(crate, from, to, said, filed));
        return papers.size();
    }

    private List<Paper> known(int crate, int known) {
        return papers.stream().filter(p -> p.crate == crate && p.filed <= known)
            .sorted(Comparator.comparingInt(Paper::said).thenComparingInt(Paper::filed)).toList();
    }

    int owner(int crate, int day, int known) {
        if (!there(crate) || !day0(day) || !day0(known)) return BAD;
        int owner = crates.get(crate).owner;
        for (Paper p : known(crate, known)) {
            if (p.said > day) break;
            if (p.from == owner) owner = p.to;
        }
        return owner;
    }

    int quarrels(int crate, int known) {
        if (!there(crate) || !day0(known)) return BAD;
        int owner = crates.get(crate).owner, good = 0;
        for (Paper p : known(crate, known)) {
            if (p.from == owner) {
                owner = p.to;
                good++;
            }
        }
        return known(crate, known).size() - good;
    }

    int pledge(int crate, int person, int sum, int said, int filed) {
        if (!there(crate) || !in(person, 0, 9) || !in(sum, 1, 100000)) return BAD;
        if (!day0(said) || !day0(filed) || filed < said) return BAD;
        if (pledges.size() == 40) return FULL;
        pledges.add(new Pledge(pledges.size(), crate, sum, said, filed));
        return pledges.size() - 1;
    }

    private List<Pledge> pledgesOn(int crate, int known) {
        return pledges.stream().filter(p -> p.crate == crate && p.filed <= known).toList();
    }

    int rank(int crate, int known, int land, int i, int what) {
        if (!there(crate) || !day0(known) || !in(land, 0, 3) || i < 0 || !in(what, 0, 1)) return BAD;
        List<Comparator<Pledge>> laws = List.of(
            Comparator.comparingInt(Pledge::filed), Comparator.comparingInt(Pledge::said),
            Comparator.comparingInt(p -> -p.sum), Comparator.comparingInt(p -> -p.filed));
        List<Pledge> row = new ArrayList<>(pledgesOn(crate, known));
        row.sort(laws.get(land));
        if (i >= row.size()) return NONE;
        if (what == 0) return row.get(i).number;
        int ahead = row.subList(0, i).stream().mapToInt(Pledge::sum).sum();
        return Math.max(0, Math.min(crates.get(crate).worth - ahead, row.get(i).sum));
    }

    int feed(long w, int n) {
        if (!in(n, 1, 8)) return BAD;
        if (tape.length() + n > 300) return FULL;
        for (int k = n - 1; k >= 0; k--) tape.append((char) (w >> 8 * k & 255));
        return tape.length();
    }

    /** What may stand in a text: 0 a word, 1 behind it, 2 days, 3 part, 4 its number, 5 the end of the line. */
    int duties() {
        String text = tape.toString();
        tape.setLength(0);
        List<String> words = List.of("sold", "shown", "out", "mended");
        List<Line> read = new ArrayList<>();
        int at = 0, what = 0, part = 0;
        Integer more = null;
        Matcher m = Pattern.compile("[a-z]+|[0-9]+|[^ \\n]", Pattern.DOTALL).matcher(text);
        while (m.find()) {
            String token = m.group();
            boolean number = token.matches("[0-9]{1,4}");
            int wrong = 0;
            if (at == 0 && words.contains(token)) {
                what = words.indexOf(token);
                more = null;
                at = 1;
                wrong = read.size() == 12 ? 3 : 0;
            } else if (at == 1 && token.equals(">")) {
                at = 2;
            } else if (at == 2 && number) {
                more = Integer.valueOf(token);
                at = 3;
            } else if ((at == 1 || at == 3) && token.equals("part")) {
                at = 4;
            } else if (at == 4 && number) {
                part = Integer.parseInt(token);
                at = 5;
                wrong = part > 100 ? 2 : 0;
            } else if (at == 5 && token.equals(";")) {
                read.add(new Line(what, more, part));
                at = 0;
            } else {
                wrong = 1;
            }
            if (wrong != 0) {
                fault = wrong;
                return -1000100 - m.start();
            }
        }
        if (at != 0) {
            fault = 1;
            return -1000100 - text.length();
        }
        lines = read;
        return lines.size();
    }

    int fault() {
        return fault;
    }

    int act(int crate, int what, int day, int days) {
        if (!there(crate) || !in(what, 0, 3) || !day0(day) || !in(days, 0, 999)) return BAD;
        if (acts.size() == 60) return FULL;
        acts.add(new Act(crate, what, day, days));
        return acts.size();
    }

    int duty(int crate, int what) {
        if (!there(crate) || !in(what, 0, 2)) return BAD;
        for (Act a : acts.stream().sorted(Comparator.comparingInt(Act::day)).toList()) {
            for (Line line : lines) {
                if (a.crate == crate && line.what == a.what && (line.more == null || a.days > line.more)) {
                    int[] answers = {crates.get(crate).worth * line.part / 100, a.day, lines.indexOf(line)};
                    return answers[what];
                }
            }
        }
        return what == 0 ? 0 : NONE;
    }

    int room(int room, int what, int v) {
        if (!in(room, 0, 5) || !in(what, 0, 1) || !in(v, 0, what == 0 ? 12 : 1000000)) return BAD;
        int was = what == 0 ? air[room] : insured[room];
        (what == 0 ? air : insured)[room] = v;
        return was;
    }

    private List<Integer> in(int room) {
        return rooms.keySet().stream().filter(c -> rooms.get(c) == room).toList();
    }

    private int worths(List<Integer> some) {
        return some.stream().mapToInt(c -> crates.get(c).worth).sum();
    }

    int move(int crate, int room) {
        if (!there(crate) || !(room == NONE || in(room, 0, 5))) return BAD;
        int was = rooms.getOrDefault(crate, NONE);
        if (was == room) return STATE;
        if (room == NONE) {
            rooms.remove(crate);
            return was;
        }
        if (in(room).size() >= air[room] || worths(in(room)) + crates.get(crate).worth > insured[room]) return FULL;
        rooms.put(crate, room);
        return was;
    }

    private static int bits(List<Integer> some) {
        return some.stream().mapToInt(c -> 1 << c).sum();
    }

    int inside(int room, int what) {
        if (!in(room, 0, 5) || !in(what, 0, 2)) return BAD;
        return what == 0 ? in(room).size() : what == 1 ? worths(in(room)) : bits(in(room));
    }

    static BigInteger lotOf(int seed, int crate, int day) {
        BigInteger all = BigInteger.ONE.shiftLeft(64);
        BigInteger z = BigInteger.valueOf(seed + crate * 1000003L + day * 8191L);
        z = z.multiply(BigInteger.valueOf(-7046029254386353131L)).mod(all);
        z = z.xor(z.shiftRight(29));
        z = z.multiply(BigInteger.valueOf(-4658895280553007687L)).mod(all);
        z = z.xor(z.shiftRight(32));
        return z.mod(BigInteger.ONE.shiftLeft(63));
    }

    int lot(int crate, int day, int n) {
        if (!in(crate, 0, 11) || !day0(day) || !in(n, 1, 1000000)) return BAD;
        return lotOf(seed, crate, day).mod(BigInteger.valueOf(n)).intValue();
    }

    int drawn(int day, int m) {
        if (!day0(day) || !in(m, 0, 12)) return BAD;
        List<Integer> stored = new ArrayList<>(rooms.keySet());
        stored.sort(Comparator.comparing(c -> lotOf(seed, c, day)));
        return bits(stored.subList(0, Math.min(m, stored.size())));
    }

    int often(int crate, int from, int to, int m) {
        if (!there(crate) || !day0(from) || !day0(to) || to < from || to - from + 1 > 400 || !in(m, 0, 12)) return BAD;
        int times = 0;
        for (int day = from; day <= to; day++) times += drawn(day, m) >> crate & 1;
        return times;
    }

    int opened(int crate, int day, int weight, int marks) {
        if (!there(crate) || !day0(day) || !in(weight, 1, 100000) || !in(marks, 0, 255)) return BAD;
        if (openings.size() == 60) return FULL;
        openings.add(new Opened(crate, day, weight, marks));
        return openings.size();
    }

    int verdict(int crate) {
        if (!there(crate)) return BAD;
        List<Opened> row = openings.stream().filter(o -> o.crate == crate)
            .sorted(Comparator.comparingInt(Opened::day)).toList();
        int worst = 0;
        for (int k = 1; k < row.size(); k++) {
            Opened first = row.get(0), later = row.get(k);
            int away = Math.abs(first.weight - later.weight), missing = 0;
            for (int bit = 1; bit < 256; bit *= 2) if ((first.marks & bit) != 0 && (later.marks & bit) == 0) missing++;
            boolean same = away <= 10 && missing == 0, swapped = away > 100 || missing > 1;
            worst = Math.max(worst, same ? 0 : swapped ? 2 : 1);
        }
        return worst;
    }

    int list(int person, int from, int to) {
        if (!in(person, 0, 9) || !day0(from) || !day0(to) || to < from) return BAD;
        if (lists.size() == 20) return FULL;
        lists.add(new Listed(person, from, to));
        return lists.size();
    }

    int barred(int crate, int day) {
        if (!there(crate) || !day0(day)) return BAD;
        int owner = owner(crate, day, day);
        long all = 0;
        boolean one = false;
        for (int person = 0; person < 10; person++) {
            int p = person;
            if (lists.stream().anyMatch(l -> l.person == p && in(day, l.from, l.to))) {
                int share = shareOn(person, owner, day);
                all += share;
                one |= share >= 500000;
            }
        }
        return one || all >= 500000 ? 1 : 0;
    }

    int day(int day) {
        if (!day0(day)) return BAD;
        int was = today;
        today = day;
        return was;
    }

    private int owed(int crate) {
        return pledgesOn(crate, today).stream().mapToInt(Pledge::sum).sum();
    }

    int kind(int crate) {
        if (!there(crate)) return BAD;
        boolean owed = !pledgesOn(crate, today).isEmpty();
        boolean deep = owed && owed(crate) > crates.get(crate).worth;
        return barred(crate, today) == 1 ? 3 : deep ? 2 : owed ? 1 : 4;
    }

    int as(int crate, int kind) {
        if (!there(crate) || !in(kind, 0, 4)) return BAD;
        List<Set<Integer>> is = Arrays.asList(null, Set.of(0, 1), Set.of(0, 1, 2), Set.of(0, 3), Set.of(0, 4));
        return is.get(kind(crate)).contains(kind) ? fine(crates.get(crate).worth) : found(3);
    }

    private int body(int crate, int number) {
        if (trace.size() < 16) trace.add(number);
        switch (number) {
            case 10: return crates.get(crate).worth;
            case 11: return body(crate, 10) - owed(crate);
            case 12: return body(crate, 11) / 2;
            case 13: return 0 - begin(crate, 1);
            case 20: return owner(crate, today, today);
            case 21: return body(crate, 20) + 100;
            case 22: return body(crate, 20) + 1000;
            default: return body(crate, 20) + begin(crate, 0);
        }
    }

    private int begin(int crate, int what) {
        int[][] bodies = {{10, 11, 12, 13, 10}, {20, 21, 21, 22, 23}};
        return body(crate, bodies[what][kind(crate)]);
    }

    int ask(int crate, int what) {
        if (!there(crate) || !in(what, 0, 1)) return BAD;
        trace = new ArrayList<>();
        return begin(crate, what);
    }

    int trace(int i) {
        return in(i, 0, trace.size() - 1) ? trace.get(i) : NONE;
    }

    int count(int what) {
        int[] counts = {items.size(), holdings.size(), crates.size(), papers.size(), pledges.size(), lines.size(),
            acts.size(), openings.size(), lists.size(), tape.length()};
        return in(what, 0, 9) ? counts[what] : BAD;
    }

    int status() {
        return status;
    }
}
