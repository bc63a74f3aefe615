import java.math.BigInteger;
import java.nio.ByteBuffer;
import java.nio.charset.StandardCharsets;
import java.util.ArrayDeque;
import java.util.ArrayList;
import java.util.Arrays;
import java.util.Comparator;
import java.util.HashMap;
import java.util.LinkedHashMap;
import java.util.List;
import java.util.Map;
import java.util.Set;
import java.util.regex.Matcher;
import java.util.regex.Pattern;

/**
 * The document once more, slow and by other ways than the program: trees for laws, all matchings
 * one by one, shortest talks level by level, whole fractions. ModelTest holds the two together.
 */
final class Model {
    static final int NONE = -1;

    static final class Fault extends RuntimeException {
        private static final long serialVersionUID = 1L;
        final int kind;
        final int place;

        Fault(int kind, int place) {
            this.kind = kind;
            this.place = place;
        }
    }

    interface Node {
        long of(Map<String, Integer> names);
    }

    record Token(String kind, String text, int place) {
    }

    static final class Person {
        int[] views = new int[3];
        int first = 0;
        int last = 999;
        boolean always = true;
        int temper = 10;
        int weight = 1;
    }

    static final class Told {
        int lines = 1;
        int textLines = 0;
        int day = 0;
        List<Person> people = new ArrayList<>();
        Node opposes;
        Node ayes;
        Node sways;
    }

    static final class Now {
        Told told = new Told();
        int day;
        int[][] views = new int[10][3];
        boolean[] away = new boolean[10];

        Now copy() {
            Now c = new Now();
            c.told = told;
            c.day = day;
            for (int i = 0; i < 10; i++) {
                c.views[i] = views[i].clone();
            }
            c.away = away.clone();
            return c;
        }
    }

    static final class Tray {
        int sort;
        long[] row;
    }

    private final List<Byte> tape = new ArrayList<>();
    private Now now = new Now();
    private final ArrayDeque<Now> past = new ArrayDeque<>();
    private int faultKind = 0;
    private int faultPlace = NONE;
    private final Tray[] trays = new Tray[4];
    private final Now[] images = new Now[2];

    // ---- the text

    static final class Parse {
        private static final Pattern TOKEN = Pattern.compile("([a-z]+)|([0-9]+)|([;:+\\-*()\\[\\]=<>])");
        private final List<Token> tokens = new ArrayList<>();
        private int at = 0;
        private String law = "";

        Parse(String text) {
            Matcher m = TOKEN.matcher(text);
            int i = 0;
            while (i < text.length()) {
                if (text.charAt(i) == '\n' || text.charAt(i) == ' ') {
                    i++;
                } else if (m.region(i, text.length()).lookingAt()) {
                    String kind = m.group(1) != null ? "word" : m.group(2) != null ? "n" : "sign";
                    boolean bad = kind.equals("n") && m.group().length() > 3;
                    tokens.add(new Token(bad ? "bad" : kind, m.group(), i));
                    i = m.end();
                } else {
                    tokens.add(new Token("bad", text.substring(i, i + 1), i));
                    i++;
                }
            }
            tokens.add(new Token("end", "", text.length()));
        }

        private Token see() {
            Token t = tokens.get(at);
            if (t.kind.equals("bad")) {
                throw new Fault(1, t.place);
            }
            return t;
        }

        private boolean sees(String text) {
            Token t = see();
            return !t.kind.equals("end") && t.text.equals(text);
        }

        private boolean eats(String text) {
            boolean so = sees(text);
            if (so) {
                at++;
            }
            return so;
        }

        private void need(String text) {
            if (!eats(text)) {
                throw new Fault(2, see().place);
            }
        }

        private int n(int low, int high) {
            Token t = see();
            if (!t.kind.equals("n")) {
                throw new Fault(2, t.place);
            }
            int v = Integer.parseInt(t.text);
            if (v < low || v > high) {
                throw new Fault(3, t.place);
            }
            at++;
            return v;
        }

        Told whole() {
            Told h = new Told();
            need("house");
            need("lines");
            h.lines = n(1, 3);
            need(";");
            h.textLines = 1;
            while (!see().kind.equals("end")) {
                line(h);
                need(";");
                h.textLines++;
            }
            return h;
        }

        private void line(Told h) {
            Token t = see();
            if (sees("person") && h.people.size() == 10) {
                throw new Fault(4, t.place);
            }
            if (eats("person")) {
                h.people.add(person(h.lines));
            } else if (eats("day")) {
                h.day = n(0, 999);
            } else if (sees("opposes") || sees("ayes") || sees("sways")) {
                law = t.text;
                at++;
                need(":");
                switch (law) {
                    case "opposes" -> h.opposes = truth(0);
                    case "ayes" -> h.ayes = truth(0);
                    default -> h.sways = sum(0);
                }
            } else {
                throw new Fault(2, t.place);
            }
        }

        private Person person(int lines) {
            Person p = new Person();
            for (int i = 0; i < lines; i++) {
                p.views[i] = n(0, 9);
            }
            while (true) {
                if (eats("in")) {
                    p.first = n(0, 999);
                    need("to");
                    p.last = n(p.first, 999);
                    p.always = false;
                } else if (eats("temper")) {
                    p.temper = n(0, 10);
                } else if (eats("weight")) {
                    p.weight = n(1, 99);
                } else {
                    return p;
                }
            }
        }

        private Node truth(int depth) {
            List<Node> parts = new ArrayList<>();
            do {
                parts.add(both(depth));
            } while (eats("or"));
            return m -> parts.stream().anyMatch(x -> x.of(m) != 0) ? 1 : 0;
        }

        private Node both(int depth) {
            List<Node> parts = new ArrayList<>();
            do {
                parts.add(unit(depth));
            } while (eats("and"));
            return m -> parts.stream().allMatch(x -> x.of(m) != 0) ? 1 : 0;
        }

        private void deeper(int depth) {
            if (depth == 6) {
                throw new Fault(4, see().place);
            }
            at++;
        }

        private Node unit(int depth) {
            if (sees("not")) {
                deeper(depth);
                Node in = unit(depth + 1);
                return m -> in.of(m) == 0 ? 1 : 0;
            }
            if (sees("[")) {
                deeper(depth);
                Node in = truth(depth + 1);
                need("]");
                return in;
            }
            Node left = sum(depth);
            String sign = see().text;
            if (!eats("=") && !eats("<") && !eats(">")) {
                throw new Fault(2, see().place);
            }
            Node right = sum(depth);
            return m -> {
                int c = Long.compare(left.of(m), right.of(m));
                return sign.equals("=") ? (c == 0 ? 1 : 0) : sign.equals("<") ? (c < 0 ? 1 : 0) : (c > 0 ? 1 : 0);
            };
        }

        private static long keep(long v) {
            return v < -1_000_000 ? -1_000_000 : v > 1_000_000 ? 1_000_000 : v;
        }

        private Node sum(int depth) {
            Node left = term(depth);
            while (sees("+") || sees("-")) {
                boolean plus = eats("+");
                if (!plus) {
                    at++;
                }
                Node a = left;
                Node b = term(depth);
                left = m -> keep(plus ? a.of(m) + b.of(m) : a.of(m) - b.of(m));
            }
            return left;
        }

        private Node term(int depth) {
            Node left = atom(depth);
            while (eats("*")) {
                Node a = left;
                Node b = atom(depth);
                left = m -> keep(a.of(m) * b.of(m));
            }
            return left;
        }

        private Node atom(int depth) {
            Token t = see();
            if (t.kind.equals("n")) {
                int v = n(0, 999);
                return m -> v;
            }
            if (sees("(")) {
                deeper(depth);
                Node in = sum(depth + 1);
                need(")");
                return in;
            }
            Set<String> all = Set.of("ease", "faith", "war", "who", "day");
            Set<String> two = Set.of("unease", "unfaith", "unwar", "other");
            boolean may = t.kind.equals("word") && (all.contains(t.text)
                    || !law.equals("ayes") && two.contains(t.text)
                    || law.equals("ayes") && t.text.equals("bill")
                    || law.equals("sways") && t.text.equals("line"));
            if (!may) {
                throw new Fault(2, t.place);
            }
            at++;
            return m -> m.get(t.text);
        }
    }

    public int feed(int a, int b, int c, int d, int e) {
        if (tape.size() + 20 > 900) {
            return -5;
        }
        for (int v : new int[] {a, b, c, d, e}) {
            for (byte x : ByteBuffer.allocate(4).putInt(v).array()) {
                tape.add(x);
            }
        }
        return tape.size();
    }

    public int house(int n) {
        if (n < 0 || n > tape.size()) {
            return -3;
        }
        byte[] bytes = new byte[n];
        for (int i = 0; i < n; i++) {
            bytes[i] = tape.get(i);
        }
        tape.clear();
        faultKind = 0;
        faultPlace = NONE;
        Told h;
        try {
            h = new Parse(new String(bytes, StandardCharsets.ISO_8859_1)).whole();
        } catch (Fault f) {
            faultKind = f.kind;
            faultPlace = f.place;
            return -30 - f.kind;
        }
        now = new Now();
        now.told = h;
        now.day = h.day;
        for (int p = 0; p < h.people.size(); p++) {
            now.views[p] = h.people.get(p).views.clone();
        }
        past.clear();
        return h.textLines;
    }

    public int fault(int what) {
        return what == 0 ? faultKind : what == 1 ? faultPlace : NONE;
    }

    // ---- what holds in a state

    private static int people(Now s) {
        return s.told.people.size();
    }

    private boolean is(int p) {
        return p >= 0 && p < people(now);
    }

    private boolean isSet(int set) {
        return set >= 0 && set < 1 << people(now);
    }

    private static boolean has(int set, int p) {
        return (set & 1 << p) != 0;
    }

    private static boolean inTown(Now s, int p, int day) {
        Person one = s.told.people.get(p);
        return !s.away[p] && (one.always || one.first <= day && day <= one.last);
    }

    private static int townOn(Now s, int day) {
        int set = 0;
        for (int p = 0; p < people(s); p++) {
            if (inTown(s, p, day)) {
                set += 1 << p;
            }
        }
        return set;
    }

    private static Map<String, Integer> names(Now s, int p, int q, int day) {
        Map<String, Integer> m = new HashMap<>();
        m.put("ease", s.views[p][0]);
        m.put("faith", s.views[p][1]);
        m.put("war", s.views[p][2]);
        m.put("who", p);
        m.put("day", day % 7);
        if (q >= 0) {
            m.put("unease", s.views[q][0]);
            m.put("unfaith", s.views[q][1]);
            m.put("unwar", s.views[q][2]);
            m.put("other", q);
        }
        return m;
    }

    private static boolean opp(Now s, int p, int q, int day) {
        if (p == q) {
            return false;
        }
        if (s.told.opposes == null) {
            return s.views[p][0] + s.views[q][0] == 9;
        }
        return s.told.opposes.of(names(s, p, q, day)) != 0 || s.told.opposes.of(names(s, q, p, day)) != 0;
    }

    private static int rowOf(Now s, int p, int among) {
        int set = 0;
        for (int q = 0; q < people(s); q++) {
            if (has(among, q) && opp(s, p, q, s.day)) {
                set += 1 << q;
            }
        }
        return set;
    }

    private static boolean aye(Now s, int p, int bill) {
        if (s.told.ayes == null) {
            return s.views[p][0] > 4;
        }
        Map<String, Integer> m = names(s, p, -1, s.day);
        m.put("bill", bill);
        return s.told.ayes.of(m) != 0;
    }

    private static int[] swayed(Now s, int p, int q) {
        int[] then = s.views[p].clone();
        for (int line = 0; line < s.told.lines; line++) {
            long way;
            if (s.told.sways == null) {
                way = s.views[q][line] - s.views[p][line];
            } else {
                Map<String, Integer> m = names(s, p, q, s.day);
                m.put("line", line);
                way = s.told.sways.of(m);
            }
            if (way < 0 && then[line] > 0) {
                then[line]--;
            }
            if (way > 0 && then[line] < 9) {
                then[line]++;
            }
        }
        return then;
    }

    private static int why(Now s, long v) {
        int n = people(s);
        if (v == -1) {
            return 0;
        }
        if (v >= 0 && v <= 99) {
            int p = (int) (v / 10);
            int q = (int) (v % 10);
            if (p == q || p >= n || q >= n) {
                return 1;
            }
            return inTown(s, p, s.day) && inTown(s, q, s.day) ? 0 : 2;
        }
        if (v >= 100 && v <= 109) {
            return v - 100 >= n ? 1 : s.away[(int) v - 100] ? 2 : 0;
        }
        if (v >= 200 && v <= 209) {
            return v - 200 >= n ? 1 : s.away[(int) v - 200] ? 0 : 2;
        }
        return 1;
    }

    private static void act(Now s, long v) {
        if (v == -1) {
            s.day++;
        } else if (v < 100) {
            s.views[(int) v / 10] = swayed(s, (int) v / 10, (int) v % 10);
        } else {
            s.away[(int) v % 100] = v < 200;
        }
    }

    /** All ways to make twos of some of a set, as partners of all (NONE: left over). */
    private static List<int[]> matchings(Now s, int set, int day) {
        List<int[]> all = new ArrayList<>();
        int[] partner = new int[10];
        Arrays.fill(partner, NONE);
        boolean[][] o = new boolean[10][10];
        for (int p = 0; p < people(s); p++) {
            for (int q = 0; q < people(s); q++) {
                o[p][q] = opp(s, p, q, day);
            }
        }
        match(o, set, 0, partner, all);
        return all;
    }

    private static void match(boolean[][] o, int set, int p, int[] partner, List<int[]> all) {
        if (p == 10) {
            all.add(partner.clone());
            return;
        }
        match(o, set, p + 1, partner, all);
        if (has(set, p) && partner[p] == NONE) {
            for (int q = p + 1; q < 10; q++) {
                if (has(set, q) && partner[q] == NONE && o[p][q]) {
                    partner[p] = q;
                    partner[q] = p;
                    match(o, set, p + 1, partner, all);
                    partner[p] = NONE;
                    partner[q] = NONE;
                }
            }
        }
    }

    private static int matched(int[] partner) {
        return (int) Arrays.stream(partner).filter(x -> x != NONE).count();
    }

    private static int weight(Now s, int[] partner) {
        int w = 0;
        for (int p = 0; p < people(s); p++) {
            w += partner[p] == NONE ? 0 : s.told.people.get(p).weight;
        }
        return w;
    }

    private static int[] bestPairs(Now s, int set, int day) {
        Comparator<int[]> order = (a, b) -> {
            if (matched(a) != matched(b)) {
                return matched(b) - matched(a);
            }
            if (weight(s, a) != weight(s, b)) {
                return weight(s, b) - weight(s, a);
            }
            for (int p = 0; p < 10; p++) {
                int x = a[p] == NONE ? 99 : a[p];
                int y = b[p] == NONE ? 99 : b[p];
                if (x != y) {
                    return x - y;
                }
            }
            return 0;
        };
        return matchings(s, set, day).stream().min(order).get();
    }

    private static long perfect(Now s, int set, int day) {
        if (set == 0) {
            return 1;
        }
        int p = 31 - Integer.numberOfLeadingZeros(set);
        long sum = 0;
        for (int q = 0; q < p; q++) {
            if (has(set, q) && opp(s, p, q, day)) {
                sum += perfect(s, set - (1 << p) - (1 << q), day);
            }
        }
        return sum;
    }

    private static boolean sit(Now s, int set, int day) {
        return perfect(s, set, day) > 0;
    }

    private static List<Integer> pieceSizes(Now s, int set) {
        int[] root = new int[10];
        for (int p = 0; p < 10; p++) {
            root[p] = p;
        }
        for (int p = 0; p < people(s); p++) {
            for (int q = 0; q < p; q++) {
                if (has(set, p) && has(set, q) && root[p] != root[q] && opp(s, p, q, s.day)) {
                    int gone = root[p];
                    int stays = root[q];
                    for (int r = 0; r < 10; r++) {
                        root[r] = root[r] == gone ? stays : root[r];
                    }
                }
            }
        }
        Map<Integer, Integer> sizes = new HashMap<>();
        for (int p = 0; p < people(s); p++) {
            if (has(set, p)) {
                sizes.merge(root[p], 1, Integer::sum);
            }
        }
        return new ArrayList<>(sizes.values());
    }

    /** The subsets of a set, fewest first, of like ones the least as bits first. */
    private static List<Integer> subsets(int set) {
        List<Integer> all = new ArrayList<>();
        for (int sub = set;; sub = sub - 1 & set) {
            all.add(sub);
            if (sub == 0) {
                break;
            }
        }
        all.sort(Comparator.<Integer>comparingInt(Integer::bitCount).thenComparingInt(x -> x));
        return all;
    }

    // ---- the calls

    public int person(int p, int what) {
        if (!is(p) || what < 0 || what > 8) {
            return -2;
        }
        Person one = now.told.people.get(p);
        return switch (what) {
            case 0, 1, 2 -> now.views[p][what];
            case 3 -> one.first;
            case 4 -> one.last;
            case 5 -> one.temper;
            case 6 -> one.weight;
            case 7 -> now.away[p] ? 1 : 0;
            default -> inTown(now, p, now.day) ? 1 : 0;
        };
    }

    public int town(int n) {
        return n < 0 || n > 999 ? -3 : townOn(now, now.day + n);
    }

    public int opposed(int p, int q) {
        return !is(p) || !is(q) ? -2 : opp(now, p, q, now.day) ? 1 : 0;
    }

    public int opposites(int p) {
        return is(p) ? rowOf(now, p, 1023) : -2;
    }

    private int doOne(long deed) {
        int w = why(now, deed);
        if (w == 0) {
            save(now.copy());
            act(now, deed);
        }
        return w;
    }

    private void save(Now s) {
        past.addLast(s);
        if (past.size() > 10) {
            past.removeFirst();
        }
    }

    private int awayCount() {
        int n = 0;
        for (boolean a : now.away) {
            n += a ? 1 : 0;
        }
        return n;
    }

    public int talk(int p, int q) {
        int w = is(p) && is(q) ? doOne(10 * p + q) : 1;
        return w != 0 ? -10 - w : rowOf(now, p, 1023);
    }

    public int send(int p) {
        int w = is(p) ? doOne(100 + p) : 1;
        return w != 0 ? -10 - w : awayCount();
    }

    public int call(int p) {
        int w = is(p) ? doOne(200 + p) : 1;
        return w != 0 ? -10 - w : awayCount();
    }

    public int days(int n) {
        if (n < 1 || n > 99) {
            return -3;
        }
        save(now.copy());
        now.day += n;
        return townOn(now, now.day);
    }

    public int undo(int n) {
        if (n < 1 || n > 10 || n > past.size()) {
            return -3;
        }
        for (int i = 0; i < n; i++) {
            now = past.removeLast();
        }
        return past.size();
    }

    private static int performIn(Now s, Tray t) {
        int i = 0;
        for (; i < t.row.length && why(s, t.row[i]) == 0; i++) {
            act(s, t.row[i]);
        }
        return i;
    }

    public int judge(int tray, int what) {
        if (tray < 0 || tray > 3 || what < 0 || what > 3) {
            return -2;
        }
        if (trays[tray] == null) {
            return -6;
        }
        Now s = now.copy();
        int done = performIn(s, trays[tray]);
        boolean stopped = done < trays[tray].row.length;
        return switch (what) {
            case 0 -> stopped ? done : NONE;
            case 1 -> stopped ? why(s, trays[tray].row[done]) : 0;
            case 2 -> sit(s, townOn(s, s.day), s.day) ? 1 : 0;
            default -> s.day;
        };
    }

    public int perform(int tray) {
        if (tray < 0 || tray > 3) {
            return -2;
        }
        if (trays[tray] == null) {
            return -6;
        }
        Now s = now.copy();
        int done = performIn(now, trays[tray]);
        if (done > 0) {
            save(s);
        }
        return done;
    }

    public int year(int seed, int times) {
        if (times < 1 || times > 40) {
            return -3;
        }
        Now s = now.copy();
        int[] x = {seed};
        java.util.function.IntSupplier draw = () -> (x[0] = x[0] * 1103515245 + 12345) >>> 16;
        int done = 0;
        for (int i = 0; i < times; i++) {
            long deed = switch (draw.getAsInt() % 4) {
                case 0 -> -1;
                case 1 -> 10 * (draw.getAsInt() % 10) + draw.getAsInt() % 10;
                case 2 -> 100 + draw.getAsInt() % 10;
                default -> 200 + draw.getAsInt() % 10;
            };
            if (why(now, deed) == 0) {
                act(now, deed);
                done++;
            }
        }
        if (done > 0) {
            save(s);
        }
        return done;
    }

    public int sits(int set) {
        return !isSet(set) ? -3 : sit(now, set, now.day) ? 1 : 0;
    }

    public int pairs(int set, int what) {
        if (what != 0 && what != 1 && !(what >= 10 && is(what - 10))) {
            return -2;
        }
        if (!isSet(set)) {
            return -3;
        }
        int[] best = bestPairs(now, set, now.day);
        return what == 0 ? matched(best) / 2 : what == 1 ? weight(now, best) : best[what - 10];
    }

    public int ways(int set) {
        return isSet(set) ? (int) perfect(now, set, now.day) : -3;
    }

    public int bar(int set, int what) {
        if (what != 0 && what != 1) {
            return -2;
        }
        if (!isSet(set)) {
            return -3;
        }
        int left = Integer.bitCount(set) - matched(bestPairs(now, set, now.day));
        for (int b : subsets(set)) {
            long odd = pieceSizes(now, set - b).stream().filter(n -> n % 2 == 1).count();
            if (odd - Integer.bitCount(b) == left) {
                return what == 0 ? Integer.bitCount(b) : b;
            }
        }
        throw new IllegalStateException("there is always a bar");
    }

    public int pieces(int set) {
        return isSet(set) ? pieceSizes(now, set).size() : -3;
    }

    private static int mostTwos(Now s, int set, int day) {
        return matchings(s, set, day).stream().mapToInt(Model::matched).max().getAsInt() / 2;
    }

    public int bestDay() {
        Map<Long, Integer> known = new HashMap<>();
        int best = 0;
        int most = -1;
        for (int day = now.day; day < now.day + 100; day++) {
            int set = townOn(now, day);
            int onDay = day;
            int twos = known.computeIfAbsent(set * 10L + day % 7, k -> mostTwos(now, set, onDay));
            if (twos > most) {
                most = twos;
                best = day - now.day;
            }
        }
        return best;
    }

    public int firstDay() {
        for (int day = now.day; day < now.day + 100; day++) {
            int set = townOn(now, day);
            if (Integer.bitCount(set) >= 2 && sit(now, set, day)) {
                return day - now.day;
            }
        }
        return NONE;
    }

    public int quorum() {
        int town = townOn(now, now.day);
        for (int out : subsets(town).stream().sorted(
                Comparator.<Integer>comparingInt(Integer::bitCount).thenComparingInt(x -> -x)).toList()) {
            if (sit(now, town - out, now.day)) {
                return town - out;
            }
        }
        throw new IllegalStateException("nobody sits");
    }

    public int cover(int set, int what) {
        if (what != 0 && what != 1) {
            return -2;
        }
        if (!isSet(set)) {
            return -3;
        }
        for (int c : subsets(townOn(now, now.day) & ~set)) {
            boolean all = true;
            for (int p = 0; p < people(now); p++) {
                all &= !has(set, p) || rowOf(now, p, c) != 0;
            }
            if (all) {
                return what == 0 ? Integer.bitCount(c) : c;
            }
        }
        return NONE;
    }

    public int laundress(int set) {
        if (!isSet(set)) {
            return -3;
        }
        int best = NONE;
        for (int p = people(now) - 1; p >= 0; p--) {
            if (inTown(now, p, now.day) && !has(set, p) && (best == NONE
                    || Integer.bitCount(rowOf(now, p, set)) >= Integer.bitCount(rowOf(now, best, set)))) {
                best = p;
            }
        }
        return best;
    }

    /** The talks of TURNING, or null. */
    private List<Integer> turning(int p, int q) {
        if (opp(now, p, q, now.day)) {
            return List.of();
        }
        if (!inTown(now, p, now.day)) {
            return null;
        }
        Now s = now.copy();
        Map<String, List<Integer>> level = new LinkedHashMap<>();
        level.put(Arrays.toString(s.views[p]), List.of());
        Map<String, int[]> views = new HashMap<>();
        views.put(Arrays.toString(s.views[p]), s.views[p]);
        while (!level.isEmpty()) {
            Map<String, List<Integer>> next = new LinkedHashMap<>();
            for (Map.Entry<String, List<Integer>> e : level.entrySet()) {
                for (int r = 0; r < people(now); r++) {
                    if (r != p && inTown(now, r, now.day)) {
                        s.views[p] = views.get(e.getKey());
                        int[] then = swayed(s, p, r);
                        List<Integer> by = new ArrayList<>(e.getValue());
                        by.add(r);
                        String key = Arrays.toString(then);
                        if (!views.containsKey(key) || next.containsKey(key)) {
                            views.put(key, then);
                            next.merge(key, by, Model::earlier);
                        }
                    }
                }
            }
            List<Integer> found = null;
            for (Map.Entry<String, List<Integer>> e : next.entrySet()) {
                s.views[p] = views.get(e.getKey());
                if (opp(s, p, q, s.day)) {
                    found = found == null ? e.getValue() : earlier(found, e.getValue());
                }
            }
            if (found != null) {
                return found;
            }
            level = next;
        }
        return null;
    }

    private static List<Integer> earlier(List<Integer> a, List<Integer> b) {
        for (int i = 0; i < a.size(); i++) {
            int c = a.get(i) - b.get(i);
            if (c != 0) {
                return c < 0 ? a : b;
            }
        }
        return a;
    }

    public int talks(int p, int q) {
        if (!is(p) || !is(q) || p == q) {
            return -2;
        }
        List<Integer> by = turning(p, q);
        return by == null ? NONE : by.size();
    }

    public int talkBy(int p, int q, int i) {
        if (!is(p) || !is(q) || p == q) {
            return -2;
        }
        if (i < 0) {
            return -3;
        }
        List<Integer> by = turning(p, q);
        return by == null || i >= by.size() ? NONE : by.get(i);
    }

    public int word() {
        if (sit(now, townOn(now, now.day), now.day)) {
            return NONE;
        }
        for (int v = 0; v < 100; v++) {
            if (why(now, v) == 0) {
                Now s = now.copy();
                act(s, v);
                if (sit(s, townOn(s, s.day), s.day)) {
                    return v;
                }
            }
        }
        return NONE;
    }

    private static int ayesIn(Now s, int bill) {
        int set = 0;
        for (int p = 0; p < people(s); p++) {
            set += inTown(s, p, s.day) && aye(s, p, bill) ? 1 << p : 0;
        }
        return set;
    }

    private static boolean passesIn(Now s, int bill) {
        int town = townOn(s, s.day);
        int ayes = Integer.bitCount(ayesIn(s, bill));
        return ayes > Integer.bitCount(town) - ayes && sit(s, town, s.day);
    }

    public int ayes(int bill) {
        return bill < 0 || bill > 9 ? -3 : ayesIn(now, bill);
    }

    public int passes(int bill) {
        return bill < 0 || bill > 9 ? -3 : passesIn(now, bill) ? 1 : 0;
    }

    private int sentFor(int bill) {
        for (int out : subsets(townOn(now, now.day))) {
            Now s = now.copy();
            for (int p = 0; p < 10; p++) {
                s.away[p] |= has(out, p);
            }
            if (passesIn(s, bill)) {
                return out;
            }
        }
        return NONE;
    }

    public int passed(int bill, int what) {
        if (what != 0 && what != 1) {
            return -2;
        }
        if (bill < 0 || bill > 9) {
            return -3;
        }
        int out = sentFor(bill);
        return out == NONE ? NONE : what == 0 ? Integer.bitCount(out) : out;
    }

    public int easiest() {
        int best = NONE;
        int fewest = 99;
        for (int bill = 9; bill >= 0; bill--) {
            int out = sentFor(bill);
            if (out != NONE && Integer.bitCount(out) <= fewest) {
                fewest = Integer.bitCount(out);
                best = bill;
            }
        }
        return best;
    }

    private int refusal(int p, int set) {
        if (!is(p)) {
            return -2;
        }
        int town = townOn(now, now.day);
        return !isSet(set) || has(set, p) || (set | town) != town ? -3 : 0;
    }

    private List<int[]> hiddenViews(int p, int set) {
        List<int[]> all = new ArrayList<>();
        int lines = now.told.lines;
        for (int a = 0; a < 10; a++) {
            for (int b = 0; b < (lines > 1 ? 10 : 1); b++) {
                for (int c = 0; c < (lines > 2 ? 10 : 1); c++) {
                    Now s = now.copy();
                    s.views[p] = new int[] {a, b, c};
                    if (rowOf(s, p, townOn(s, s.day)) == set) {
                        all.add(s.views[p]);
                    }
                }
            }
        }
        return all;
    }

    public int hidden(int p, int set) {
        int r = refusal(p, set);
        return r != 0 ? r : hiddenViews(p, set).size();
    }

    public int hiddenAt(int p, int set, int k) {
        int r = refusal(p, set);
        if (r != 0 || k < 0) {
            return r != 0 ? r : -3;
        }
        List<int[]> all = hiddenViews(p, set);
        if (k >= all.size()) {
            return NONE;
        }
        int[] v = all.get(k);
        return 100 * v[0] + 10 * v[1] + v[2];
    }

    public int probe(int p, int set) {
        int r = refusal(p, set);
        if (r != 0) {
            return r;
        }
        List<int[]> all = hiddenViews(p, set);
        if (all.isEmpty()) {
            return NONE;
        }
        int best = NONE;
        long most = -1;
        for (int q = 0; q < people(now); q++) {
            if (q != p && !inTown(now, q, now.day)) {
                int who = q;
                long yes = all.stream().filter(v -> {
                    Now s = now.copy();
                    s.views[p] = v;
                    return opp(s, p, who, s.day);
                }).count();
                long lesser = Math.min(yes, all.size() - yes);
                if (lesser > most) {
                    most = lesser;
                    best = q;
                }
            }
        }
        return best;
    }

    /** How likely those that come sit, of ten to the number of people. */
    private BigInteger likely(int set, int p, int come) {
        if (p == 10) {
            return sit(now, come, now.day) ? BigInteger.ONE : BigInteger.ZERO;
        }
        if (!has(set, p)) {
            return likely(set, p + 1, come).multiply(BigInteger.TEN);
        }
        int t = now.told.people.get(p).temper;
        BigInteger with = t == 0 ? BigInteger.ZERO
                : likely(set, p + 1, come | 1 << p).multiply(BigInteger.valueOf(t));
        BigInteger without = t == 10 ? BigInteger.ZERO
                : likely(set, p + 1, come).multiply(BigInteger.valueOf(10 - t));
        return with.add(without);
    }

    public long chance(int set, int what) {
        if (what != 0 && what != 1) {
            return -2;
        }
        if (!isSet(set)) {
            return -3;
        }
        BigInteger above = likely(set, 0, 0);
        BigInteger below = BigInteger.TEN.pow(10);
        BigInteger g = above.gcd(below);
        return (what == 0 ? above : below).divide(g).longValueExact();
    }

    public int reserve(int set) {
        if (!isSet(set)) {
            return -3;
        }
        BigInteger most = likely(set, 0, 0);
        int best = NONE;
        for (int p = 0; p < people(now); p++) {
            if (inTown(now, p, now.day) && !has(set, p)) {
                BigInteger then = likely(set | 1 << p, 0, 0);
                if (then.compareTo(most) > 0) {
                    most = then;
                    best = p;
                }
            }
        }
        return best;
    }

    public int numbers(int tray, int sort, int n) {
        if (tray < 0 || tray > 3 || sort < 0 || sort > 3) {
            return -2;
        }
        if (n < 0 || n > 40) {
            return -3;
        }
        trays[tray] = new Tray();
        trays[tray].sort = sort;
        trays[tray].row = new long[n];
        return 0;
    }

    public long write(int tray, int i, long v) {
        if (tray < 0 || tray > 3) {
            return -2;
        }
        if (trays[tray] == null) {
            return -6;
        }
        if (i < 0 || i >= trays[tray].row.length) {
            return -7;
        }
        int gone = 64 - (8 << trays[tray].sort);
        trays[tray].row[i] = v << gone >> gone;
        return trays[tray].row[i];
    }

    public int lists(int tray, int p, int q) {
        if (tray < 0 || tray > 3 || !is(p) || !is(q) || p == q) {
            return -2;
        }
        if (trays[tray] == null) {
            return -6;
        }
        List<Integer> by = turning(p, q);
        if (by == null) {
            return -5;
        }
        int i = 0;
        for (; i < by.size() && i < trays[tray].row.length; i++) {
            trays[tray].row[i] = 10 * p + by.get(i);
        }
        return i;
    }

    public int image(int i) {
        if (i < 0 || i > 1) {
            return -2;
        }
        images[i] = now.copy();
        return 0;
    }

    public int restore(int i) {
        if (i < 0 || i > 1) {
            return -2;
        }
        if (images[i] == null) {
            return -5;
        }
        now = images[i].copy();
        past.clear();
        return 0;
    }

    public int count(int what) {
        int twos = 0;
        int away = 0;
        for (int p = 0; p < people(now); p++) {
            twos += Integer.bitCount(rowOf(now, p, (1 << p) - 1));
            away += now.away[p] ? 1 << p : 0;
        }
        return switch (what) {
            case 0 -> now.told.lines;
            case 1 -> people(now);
            case 2 -> townOn(now, now.day);
            case 3 -> away;
            case 4 -> now.day;
            case 5 -> twos;
            case 6 -> past.size();
            case 7 -> tape.size();
            case 8 -> now.told.textLines;
            default -> NONE;
        };
    }
}
