import java.util.ArrayList;
import java.util.Arrays;
import java.util.HashMap;
import java.util.HashSet;
import java.util.List;
import java.util.Map;
import java.util.NoSuchElementException;
import java.util.Set;

/** The document over again, slow and plain, to be held against MineAir. */
final class Naive {
    private static final Set<String> HELD = Set.of("way", "door", "pair", "fan", "face");

    /** What a TEXT tells. */
    static final class Told {
        final List<int[]> ways = new ArrayList<>(); // from, to, hinder, size, walk, draught
        final List<int[]> doors = new ArrayList<>(); // way, by
        final List<int[]> pairs = new ArrayList<>();
        final List<int[]> fans = new ArrayList<>(); // way, push, fall, cost
        final List<int[]> faces = new ArrayList<>(); // way, gas, need
        final List<String> knots = new ArrayList<>();
        final List<int[]> rounds = new ArrayList<>(); // simple closed walks: +-(way + 1)

        int in(List<int[]> things, int w) {
            for (int i = 0; i < things.size(); i++) if (things.get(i)[0] == w) return i;
            return -2;
        }
    }

    private static final class Fault extends RuntimeException {
        final int number;
        final int place;

        Fault(int number, int place) {
            super(null, null, false, false);
            this.number = number;
            this.place = place;
        }
    }

    /** STATE, for the trials copied whole. */
    static final class Now {
        boolean[] open;
        int[] speed;
        boolean[] fallen;
        int[] fire;
        int[] more;

        Now(Told t) {
            open = new boolean[t.doors.size()];
            speed = new int[t.fans.size()];
            Arrays.fill(speed, 1);
            fallen = new boolean[t.ways.size()];
            fire = new int[t.ways.size()];
            more = new int[t.ways.size()];
        }

        Now(Now o) {
            open = o.open.clone();
            speed = o.speed.clone();
            fallen = o.fallen.clone();
            fire = o.fire.clone();
            more = o.more.clone();
        }

        String key() {
            return Arrays.toString(open) + Arrays.toString(speed) + Arrays.toString(fallen)
                    + Arrays.toString(fire) + Arrays.toString(more);
        }
    }

    private final StringBuilder tape = new StringBuilder();
    private Told told = null;
    private Now now = null;
    private int mark = 10;
    private int fault = 0;
    private int place = -1;
    private int trouble = 0;
    private final List<Integer> men = new ArrayList<>();
    private final List<int[]> changes = new ArrayList<>();
    private final List<int[]> readings = new ArrayList<>();
    private final Map<String, int[]> airs = new HashMap<>();

    // ---- reading

    private record Token(char kind, String text, int place) {
    }

    private List<Token> tokens = List.of();
    private int next = 0;

    private static List<Token> lex(String text) {
        List<Token> list = new ArrayList<>();
        java.util.regex.Matcher m = java.util.regex.Pattern.compile("[a-z]+|[0-9]+|;|-| +|(?s).").matcher(text);
        while (m.find()) {
            String s = m.group();
            char c = s.charAt(0);
            if (c == ' ') continue;
            char kind = c >= 'a' && c <= 'z' ? (s.length() <= 8 ? 'w' : '?')
                    : c >= '0' && c <= '9' ? (s.length() <= 4 ? 'n' : '?')
                    : c == ';' || c == '-' ? c : '?';
            list.add(new Token(kind, s, m.start()));
        }
        list.add(new Token('.', "", text.length()));
        return list;
    }

    private Token want(char kind, String text) {
        Token t = tokens.get(next);
        if (t.kind != kind || text != null && !t.text.equals(text)) throw new Fault(1, t.place);
        next++;
        return t;
    }

    private Token name() {
        Token t = want('w', null);
        if (HELD.contains(t.text)) throw new Fault(1, t.place);
        return t;
    }

    private int whole(String lead, int least, int most) {
        if (lead != null) want('w', lead);
        Token t = want('n', null);
        int v = Integer.parseInt(t.text);
        if (v < least || v > most) throw new Fault(4, t.place);
        return v;
    }

    private int knot(Told t, int first) {
        Token n = name();
        int k = t.knots.indexOf(n.text);
        if (k >= 0 && k == first) throw new Fault(3, n.place);
        if (k < 0) {
            if (t.knots.size() == 10) throw new Fault(5, n.place);
            k = t.knots.size();
            t.knots.add(n.text);
        }
        return k;
    }

    private Told read(String text) {
        tokens = lex(text);
        next = 0;
        Told t = new Told();
        Map<String, int[]> names = new HashMap<>();
        while (true) {
            line(t, names);
            if (tokens.get(next).kind == '.') break;
            want(';', null);
        }
        return t;
    }

    private void line(Told t, Map<String, int[]> names) {
        Token lead = want('w', null);
        switch (lead.text) {
            case "way" -> {
                fresh(names, 'w', t.ways, 14);
                int a = knot(t, -1);
                int b = knot(t, a);
                int h = whole("hinder", 1, 99);
                int s = whole("size", 1, 999);
                int w = whole("walk", 1, 99);
                int d = 0;
                if (tokens.get(next).text.equals("draught")) {
                    next++;
                    boolean minus = tokens.get(next).kind == '-';
                    if (minus) next++;
                    d = whole(null, 0, 5000) * (minus ? -1 : 1);
                }
                t.ways.add(new int[] {a, b, h, s, w, d});
            }
            case "door" -> {
                fresh(names, 'd', t.doors, 6);
                int w = site(t, t.doors, names);
                t.doors.add(new int[] {w, whole("by", 1, 99)});
            }
            case "fan" -> {
                fresh(names, 'f', t.fans, 4);
                int w = site(t, t.fans, names);
                t.fans.add(new int[] {w, whole("push", 1, 999), whole("fall", 0, 99), whole("cost", 1, 99)});
            }
            case "face" -> {
                fresh(names, 'g', t.faces, 4);
                int w = site(t, t.faces, names);
                t.faces.add(new int[] {w, whole("gas", 0, 999), whole("need", 0, 60)});
            }
            case "pair" -> {
                Token n = name();
                int a = known(names, n, 'd');
                if (t.pairs.size() == 3) throw new Fault(5, n.place);
                n = name();
                int b = known(names, n, 'd');
                if (a == b) throw new Fault(3, n.place);
                t.pairs.add(new int[] {a, b});
            }
            default -> throw new Fault(1, lead.place);
        }
    }

    private void fresh(Map<String, int[]> names, char kind, List<int[]> things, int room) {
        Token n = name();
        if (names.containsKey(n.text)) throw new Fault(3, n.place);
        if (things.size() == room) throw new Fault(5, n.place);
        names.put(n.text, new int[] {kind, things.size()});
    }

    private int known(Map<String, int[]> names, Token n, char kind) {
        int[] got = names.get(n.text);
        if (got == null || got[0] != kind) throw new Fault(2, n.place);
        return got[1];
    }

    private int site(Told t, List<int[]> things, Map<String, int[]> names) {
        want('w', "in");
        Token n = name();
        int w = known(names, n, 'w');
        if (t.in(things, w) >= 0) throw new Fault(3, n.place);
        return w;
    }

    // ---- air

    private static void findRounds(Told t) {
        Set<Set<Integer>> done = new HashSet<>();
        for (int k = 0; k < t.knots.size(); k++) walkRounds(t, k, k, new ArrayList<>(), new HashSet<>(), done);
    }

    private static void walkRounds(Told t, int start, int at, List<Integer> steps, Set<Integer> seen,
            Set<Set<Integer>> done) {
        for (int w = 0; w < t.ways.size(); w++) {
            int[] way = t.ways.get(w);
            if (way[0] != at && way[1] != at) continue;
            if (steps.contains(w + 1) || steps.contains(-w - 1)) continue;
            int to = way[0] == at ? way[1] : way[0];
            if (to < start || seen.contains(to)) continue;
            steps.add(way[0] == at ? w + 1 : -w - 1);
            if (to == start) {
                Set<Integer> key = new HashSet<>();
                for (int s : steps) key.add(Math.abs(s));
                if (done.add(key)) t.rounds.add(steps.stream().mapToInt(i -> i).toArray());
            } else {
                seen.add(to);
                walkRounds(t, start, to, steps, seen, done);
                seen.remove(to);
            }
            steps.remove(steps.size() - 1);
        }
    }

    private static int hindrance(Told t, Now s, int w) {
        int d = t.in(t.doors, w);
        return t.ways.get(w)[2] + (d >= 0 && !s.open[d] ? t.doors.get(d)[1] : 0) + s.more[w];
    }

    /** A STEP from q - 1 to q. */
    static long step(Told t, Now s, int w, int q) {
        long r = hindrance(t, s, w);
        long c = q > 0 ? r * q * q : -r * (1 - q) * (1 - q);
        c -= t.ways.get(w)[5] + s.fire[w];
        int f = t.in(t.fans, w);
        if (f >= 0) c += -(long) t.fans.get(f)[1] * s.speed[f] + (long) t.fans.get(f)[2] * q;
        return c;
    }

    static long cost(Told t, Now s, int w, int q) {
        long sum = 0;
        for (int i = 1; i <= q; i++) sum += step(t, s, w, i);
        for (int i = 0; i > q; i--) sum -= step(t, s, w, i);
        return sum;
    }

    private static long power(int w) {
        return w == 0 ? 1 : 3 * power(w - 1);
    }

    /** Down along every simple round by single parts until none betters it. */
    private int[] airOf(Now s) {
        int[] kept = airs.get(s.key());
        if (kept != null) return kept;
        int n = told.ways.size();
        long[][] costs = new long[n][123];
        for (int w = 0; w < n; w++) for (int q = -60; q <= 60; q++) costs[w][q + 61] = cost(told, s, w, q);
        int[] air = new int[n];
        boolean moved = true;
        while (moved) {
            moved = false;
            for (int[] round : told.rounds) {
                for (int sign = -1; sign <= 1; sign += 2) {
                    while (betters(s, costs, air, round, sign)) {
                        for (int i : round) air[Math.abs(i) - 1] += i > 0 ? sign : -sign;
                        moved = true;
                    }
                }
            }
        }
        airs.put(s.key(), air);
        return air;
    }

    private static boolean betters(Now s, long[][] costs, int[] air, int[] round, int sign) {
        long sum = 0;
        long tie = 0;
        for (int i : round) {
            int w = Math.abs(i) - 1;
            int q = air[w] + (i > 0 ? sign : -sign);
            if (s.fallen[w] || q < -60 || q > 60) return false;
            sum += costs[w][q + 61] - costs[w][air[w] + 61];
            tie += power(w) * (Math.abs(q) - Math.abs(air[w]));
        }
        return sum < 0 || sum == 0 && tie < 0;
    }

    // ---- gas; null if a RING

    private int day() {
        return told == null ? -1 : told.knots.indexOf("day");
    }

    private int from(int w, int[] air) {
        return told.ways.get(w)[air[w] > 0 ? 0 : 1];
    }

    private int to(int w, int[] air) {
        return told.ways.get(w)[air[w] > 0 ? 1 : 0];
    }

    private int[] gasOf(int[] air) {
        int n = told.ways.size();
        Integer[] gas = new Integer[n];
        for (int w = 0; w < n; w++) {
            if (air[w] == 0) gas[w] = faceGas(w);
            else if (from(w, air) == day()) gas[w] = faceGas(w);
        }
        for (int times = 0; times <= told.knots.size(); times++) {
            for (int k = 0; k < told.knots.size(); k++) if (k != day()) passOn(k, air, gas);
        }
        int[] plain = new int[n];
        for (int w = 0; w < n; w++) {
            if (gas[w] == null) return null;
            plain[w] = gas[w];
        }
        return plain;
    }

    private int faceGas(int w) {
        int f = told.in(told.faces, w);
        return f < 0 ? 0 : told.faces.get(f)[1];
    }

    private void passOn(int k, int[] air, Integer[] gas) {
        int whole = 0;
        int all = 0;
        List<Integer> away = new ArrayList<>();
        for (int w = 0; w < air.length; w++) {
            if (air[w] == 0) continue;
            if (to(w, air) == k) {
                if (gas[w] == null) return;
                whole += gas[w];
            } else if (from(w, air) == k) {
                if (gas[w] != null) return;
                away.add(w);
                all += Math.abs(air[w]);
            }
        }
        int left = whole;
        final int g = whole;
        final int a = all;
        for (int w : away) {
            int part = whole * Math.abs(air[w]) / all;
            gas[w] = faceGas(w) + part;
            left -= part;
        }
        away.sort((x, y) -> {
            int rx = g * Math.abs(air[x]) % a;
            int ry = g * Math.abs(air[y]) % a;
            return rx != ry ? ry - rx : x - y;
        });
        for (int i = 0; i < left; i++) gas[away.get(i)]++;
    }

    private int thickOf(int w, int[] air, int[] gas) {
        if (air[w] == 0) return faceGas(w) > 0 ? 1000 : 0;
        return 1000 * gas[w] / Math.abs(air[w]);
    }

    private int overOf(int[] air, int[] gas) {
        int sum = 0;
        for (int w = 0; w < air.length; w++) if (thickOf(w, air, gas) > mark) sum++;
        return sum;
    }

    private int soundOf(Now s) {
        int[] air = airOf(s);
        int[] gas = gasOf(air);
        if (gas == null) return 1;
        if (overOf(air, gas) > 0) return 2;
        for (int[] face : told.faces) if (Math.abs(air[face[0]]) < face[2]) return 3;
        for (int[] pair : told.pairs) if (s.open[pair[0]] && s.open[pair[1]]) return 4;
        return 0;
    }

    // ---- smoke and men

    private int fireWay() {
        for (int w = 0; w < told.ways.size(); w++) if (now.fire[w] != 0) return w;
        return -1;
    }

    private int[] smokeOf() {
        int[] air = airOf(now);
        int[] smoke = new int[air.length];
        Arrays.fill(smoke, -2);
        smoke[fireWay()] = 0;
        for (int times = 0; times <= air.length; times++) {
            for (int w = 0; w < air.length; w++) {
                if (smoke[w] == -2 || air[w] == 0 || to(w, air) == day()) continue;
                int later = smoke[w];
                for (int left = told.ways.get(w)[3]; left > 0; left -= Math.abs(air[w])) later++;
                for (int v = 0; v < air.length; v++) {
                    if (air[v] == 0 || from(v, air) != to(w, air)) continue;
                    if (smoke[v] == -2 || smoke[v] > later) smoke[v] = later;
                }
            }
        }
        return smoke;
    }

    /** Minute by minute: which KNOTS one can be at. */
    private boolean[][] beAt(int knot, int[] smoke) {
        boolean[][] at = new boolean[1200][told.knots.size()];
        at[0][knot] = true;
        for (int m = 0; m < 1100; m++) {
            for (int k = 0; k < told.knots.size(); k++) {
                if (!at[m][k]) continue;
                at[m + 1][k] = true;
                for (int w = 0; w < smoke.length; w++) {
                    int[] way = told.ways.get(w);
                    if (now.fallen[w] || way[0] != k && way[1] != k) continue;
                    int through = m + way[4];
                    if (smoke[w] == -2 || smoke[w] > through) at[through][way[0] == k ? way[1] : way[0]] = true;
                }
            }
        }
        return at;
    }

    private static int least(boolean[][] at, int knot) {
        for (int m = 0; m < 1100; m++) if (at[m][knot]) return m;
        return -2;
    }

    private List<Integer> routeOf(int man) {
        int[] smoke = smokeOf();
        boolean[][] at = beAt(men.get(man), smoke);
        int k = day();
        if (k < 0 || least(at, k) == -2) throw new NoSuchElementException();
        List<Integer> route = new ArrayList<>(List.of(k));
        int minute = least(at, k);
        while (minute > 0) {
            int w = 0;
            while (true) {
                int[] way = told.ways.get(w);
                if (!now.fallen[w] && (way[0] == k || way[1] == k)) {
                    int other = way[0] == k ? way[1] : way[0];
                    int entered = minute - way[4];
                    if (entered >= 0 && at[entered][other] && (smoke[w] == -2 || smoke[w] > minute)) {
                        k = other;
                        minute = entered;
                        break;
                    }
                }
                w++;
            }
            route.add(0, k);
        }
        return route;
    }

    // ---- changes

    private static void put(Now s, int[] change) {
        switch (change[0]) {
            case 0 -> s.open[change[1]] = change[2] == 1;
            case 1 -> s.speed[change[1]] = change[2];
            default -> s.fallen[change[1]] = change[2] == 1;
        }
    }

    private List<Integer> orderFrom(Now s, List<Integer> made) {
        if (soundOf(s) != 0) return null;
        if (made.size() == changes.size()) return made;
        for (int c = 0; c < changes.size(); c++) {
            if (made.contains(c)) continue;
            Now then = new Now(s);
            put(then, changes.get(c));
            List<Integer> more = new ArrayList<>(made);
            more.add(c);
            List<Integer> got = orderFrom(then, more);
            if (got != null) return got;
        }
        return null;
    }

    // ---- the face

    private int no(int why) {
        trouble = why;
        return -1;
    }

    private int yes(int answer) {
        trouble = 0;
        return answer;
    }

    private int size(List<?> list) {
        return list == null ? 0 : list.size();
    }

    private boolean isIn(int i, int n) {
        return i >= 0 && i < n;
    }

    private boolean isWay(int w) {
        return told != null && isIn(w, told.ways.size());
    }

    int feed(int a, int b, int c, int d, int e) {
        if (tape.length() + 20 > 600) return -1;
        for (int v : new int[] {a, b, c, d, e}) {
            for (int s = 24; s >= 0; s -= 8) tape.append((char) (v >>> s & 255));
        }
        return tape.length();
    }

    int book(int n) {
        if (n < 0 || n > tape.length()) return no(2);
        String text = tape.substring(0, n);
        tape.setLength(0);
        try {
            Told t = read(text);
            findRounds(t);
            told = t;
            now = new Now(t);
            mark = 10;
            men.clear();
            changes.clear();
            readings.clear();
            airs.clear();
            fault = 0;
            return yes(t.ways.size());
        } catch (Fault f) {
            fault = f.number;
            place = f.place;
            return no(4);
        }
    }

    int fault() {
        return fault;
    }

    int where() {
        return trouble == 4 ? place : -1;
    }

    int way(int w, int what) {
        if (!isWay(w)) return Integer.MIN_VALUE;
        int[] way = told.ways.get(w);
        if (what == 2) return hindrance(told, now, w);
        if (what >= 0 && what <= 5) return way[what];
        if (what == 6) return told.in(told.doors, w);
        if (what == 7) return told.in(told.fans, w);
        if (what == 8) return told.in(told.faces, w);
        if (what == 9) return now.fallen[w] ? 1 : 0;
        if (what == 10) return now.fire[w];
        return Integer.MIN_VALUE;
    }

    boolean door(int d, boolean open) {
        if (told == null || !isIn(d, told.doors.size())) return no(1) == 0;
        if (now.open[d] == open) return no(5) == 0;
        now.open[d] = open;
        return yes(0) == 0;
    }

    boolean speed(int f, int s) {
        if (told == null || !isIn(f, told.fans.size())) return no(1) == 0;
        if (s < -3 || s > 3) return no(2) == 0;
        now.speed[f] = s;
        return yes(0) == 0;
    }

    boolean fall(int w, boolean fallen) {
        if (!isWay(w)) return no(1) == 0;
        if (now.fallen[w] == fallen) return no(5) == 0;
        now.fallen[w] = fallen;
        return yes(0) == 0;
    }

    boolean fire(int w, int push) {
        if (!isWay(w)) return no(1) == 0;
        if (push < -5000 || push > 5000) return no(2) == 0;
        now.fire[w] = push;
        return yes(0) == 0;
    }

    boolean mark(int m) {
        if (m < 1 || m > 999) return no(2) == 0;
        mark = m;
        return yes(0) == 0;
    }

    int air(int w) {
        return isWay(w) ? airOf(now)[w] : -100;
    }

    long cost() {
        if (told == null) return 0;
        int[] air = airOf(now);
        long sum = 0;
        for (int w = 0; w < air.length; w++) sum += cost(told, now, w, air[w]);
        return sum;
    }

    int turned(int f) {
        if (told == null || !isIn(f, told.fans.size())) return no(1);
        Now other = new Now(now);
        other.speed[f] *= -1;
        int[] a = airOf(now);
        int[] b = airOf(other);
        int sum = 0;
        for (int w = 0; w < a.length; w++) if (a[w] > 0 && b[w] < 0 || a[w] < 0 && b[w] > 0) sum++;
        return yes(sum);
    }

    int gas(int w) {
        if (!isWay(w)) return no(1);
        int[] gas = gasOf(airOf(now));
        return gas == null ? no(5) : yes(gas[w]);
    }

    int thick(int w) {
        if (!isWay(w)) return no(1);
        int[] gas = gasOf(airOf(now));
        return gas == null ? no(5) : yes(thickOf(w, airOf(now), gas));
    }

    int over() {
        if (told == null) return no(1);
        int[] gas = gasOf(airOf(now));
        return gas == null ? no(5) : yes(overOf(airOf(now), gas));
    }

    int sound() {
        return told == null ? no(1) : yes(soundOf(now));
    }

    int failing(boolean ways) {
        if (told == null) return no(1);
        int bits = 0;
        for (int i = 0; i < (ways ? told.ways.size() : told.fans.size()); i++) {
            Now other = new Now(now);
            if (ways && other.fallen[i]) continue;
            if (ways) other.fallen[i] = true;
            else other.speed[i] = 0;
            if (soundOf(other) != 0) bits |= 1 << i;
        }
        return yes(bits);
    }

    int setting() {
        if (told == null) return no(1);
        int n = told.fans.size();
        int best = -1;
        int bestCost = 0;
        int bestRank = 0;
        for (int code = 0; code < 1 << 2 * n; code++) {
            Now other = new Now(now);
            int cost = 0;
            int rank = 0;
            for (int f = 0; f < n; f++) {
                other.speed[f] = code >> 2 * f & 3;
                cost += other.speed[f] * told.fans.get(f)[3];
                rank = rank * 4 + other.speed[f];
            }
            if (best >= 0 && (cost > bestCost || cost == bestCost && rank > bestRank)) continue;
            if (soundOf(other) != 0) continue;
            best = code;
            bestCost = cost;
            bestRank = rank;
        }
        return best < 0 ? no(6) : yes(best);
    }

    int smoke(int w) {
        if (!isWay(w)) return no(1);
        if (fireWay() < 0) return no(5);
        return yes(smokeOf()[w]);
    }

    int man(int knot) {
        if (told == null || !isIn(knot, told.knots.size())) return no(1);
        if (men.size() == 20) return no(3);
        men.add(knot);
        return yes(men.size() - 1);
    }

    int out(int man) {
        if (!isIn(man, men.size())) return no(1);
        if (fireWay() < 0) return no(5);
        return yes(day() < 0 ? -2 : least(beAt(men.get(man), smokeOf()), day()));
    }

    int change(int kind, int which, int value) {
        if (told == null || kind < 0 || kind > 2) return no(1);
        int n = kind == 0 ? told.doors.size() : kind == 1 ? told.fans.size() : told.ways.size();
        if (!isIn(which, n)) return no(1);
        if (kind == 1 ? value < -3 || value > 3 : value != 0 && value != 1) return no(2);
        if (changes.size() == 5) return no(3);
        changes.add(new int[] {kind, which, value});
        return yes(changes.size() - 1);
    }

    int order(int i) {
        if (!isIn(i, changes.size())) return no(1);
        List<Integer> order = orderFrom(now, List.of());
        return yes(order == null ? -2 : order.get(i));
    }

    int make() {
        if (changes.isEmpty()) return no(5);
        List<Integer> order = orderFrom(now, List.of());
        if (order == null) return no(6);
        for (int c : order) put(now, changes.get(c));
        changes.clear();
        return yes(order.size());
    }

    int reading(int w, int low, int high) {
        if (!isWay(w)) return no(1);
        if (low > high) return no(2);
        if (readings.size() == 8) return no(3);
        readings.add(new int[] {w, low, high});
        return yes(readings.size());
    }

    int fits(int more) {
        if (told == null) return no(1);
        if (more < 0 || more > 9999) return no(2);
        if (readings.isEmpty()) return no(5);
        int bits = 0;
        for (int w = 0; w < told.ways.size(); w++) {
            if (now.fallen[w]) continue;
            Now other = new Now(now);
            other.more[w] = more;
            int[] air = airOf(other);
            boolean fits = true;
            for (int[] r : readings) fits &= air[r[0]] >= r[1] && air[r[0]] <= r[2];
            if (fits) bits |= 1 << w;
        }
        return yes(bits);
    }

    int led(int man, int i) {
        if (!isIn(man, men.size()) || fireWay() < 0) throw new NoSuchElementException();
        List<Integer> route = routeOf(man);
        if (!isIn(i, route.size())) throw new NoSuchElementException();
        return route.get(i);
    }

    int count(int what) {
        switch (what) {
            case 0: return told == null ? 0 : size(told.ways);
            case 1: return told == null ? 0 : size(told.knots);
            case 2: return told == null ? 0 : size(told.doors);
            case 3: return told == null ? 0 : size(told.pairs);
            case 4: return told == null ? 0 : size(told.fans);
            case 5: return told == null ? 0 : size(told.faces);
            case 6: return men.size();
            case 7: return changes.size();
            case 8: return readings.size();
            case 9: return day() < 0 ? -2 : day();
            case 10: return tape.length();
            default: return -1;
        }
    }

    int trouble() {
        return trouble;
    }
}
