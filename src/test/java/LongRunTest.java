import java.util.NoSuchElementException;
import java.util.Random;

/** "An object is used for at most 512 calls": runs of so many calls of each kind, each answer held against Naive's. */
public final class LongRunTest {
    private static final int MOST_CALLS = 512;

    private static final String[] KINDS = {"feed", "book", "fault", "where", "way", "door", "speed", "fall", "fire", "mark", "air", "cost",
        "turned", "gas", "thick", "over", "sound", "failing", "setting", "smoke", "man", "out", "change", "order", "make", "reading",
        "fits", "led", "count", "trouble"};

    /** Few FANS, so that Naive can try all SPEEDS each time. */
    private static final String WIDE = Lines.book(Lines.drawn("a", "day x", 3, 400), Lines.way("b", "x y", 4, 90, 5),
            Lines.way("c", "x z", 5, 80, 6), Lines.way("d", "y z", 9, 40, 2), Lines.way("e", "y u", 2, 99, 4), Lines.way("f", "z u", 2, 55, 9),
            Lines.way("g", "u day", 1, 200, 12), Lines.way("h", "u v", 1), Lines.way("i", "v day", 2, 30, 3), Lines.door("p", "d", 20),
            Lines.door("q", "h", 9), "pair p q", Lines.fan("m", "g", 150, 2, 7), Lines.fan("n", "b", 90, 1, 3), Lines.face("r", "b", 1, 3));

    private final MineAir mine = new MineAir();
    private final Naive naive = new Naive();
    private final Random dice;
    private final String text;
    private int calls;

    private LongRunTest(String text, long seed) {
        this.text = text;
        dice = new Random(seed);
    }

    public static void main(String[] args) {
        for (int kind = 0; kind < KINDS.length; kind++) {
            new LongRunTest(WIDE, kind).unbooked(kind);
            new LongRunTest(WIDE, kind).ofOneKind(kind);
            new LongRunTest(WIDE, kind).amongChanges(kind);
            new LongRunTest(full(true), kind).ofOneKind(kind);
        }
        for (int seed = 0; seed < 20; seed++) {
            new LongRunTest(WIDE, 100 + seed).ofAllKinds();
            new LongRunTest(full(seed % 2 == 0), 200 + seed).ofAllKinds();
        }
        for (int seed = 0; seed < 3; seed++) new LongRunTest(fullOfFans(), 300 + seed).ofAllKinds();
        manyBooks();
        dearSettings();
        dearOrders();
        Check.end();
    }

    /** All 14 WAYS by all 10 KNOTS: round by day, and four across. */
    private static StringBuilder fourteen(boolean burning) {
        StringBuilder lines = new StringBuilder();
        for (int w = 0; w < 14; w++) {
            int from = w < 10 ? w : w - 9;
            int to = w < 10 ? (w + 1) % 10 : w - 5;
            lines.append("way ").append((char) ('a' + w)).append(' ').append(knot(from)).append(' ').append(knot(to));
            lines.append(" hinder1size").append(w % 9 + 1).append("walk").append(w % 7 + 1);
            if (w == 0 && burning) lines.append("draught400");
            lines.append(';');
        }
        return lines;
    }

    private static String knot(int k) {
        return k == 0 ? "day" : String.valueOf((char) ('a' + k));
    }

    /** As many DOORS and PAIRS as there is room for besides. */
    private static String full(boolean drawn) {
        StringBuilder lines = fourteen(drawn);
        for (int d = 0; d < 6; d++) lines.append("door ").append((char) ('o' + d)).append(" in ").append((char) ('n' - d)).append(" by9;");
        return lines.append("pair o p;pair q r;pair p q;fan z in c push400fall1cost3;face y in e gas1need1").toString();
    }

    /** As many FANS and FACES as there is room for besides. */
    private static String fullOfFans() {
        StringBuilder lines = fourteen(false);
        for (int f = 0; f < 4; f++) {
            lines.append("fan ").append((char) ('o' + f)).append(" in ").append((char) ('n' - 3 * f)).append(" push").append(f + 6).append("0fall0cost1;");
        }
        for (int f = 0; f < 3; f++) lines.append("face ").append((char) ('s' + f)).append(" in ").append((char) ('n' - f)).append(" gas0need1;");
        return lines.append("face z in a gas1need0").toString();
    }

    private int way() {
        return from(-1, Math.max(9, naive.count(0)));
    }

    private int from(int least, int most) {
        return least + dice.nextInt(most - least + 1);
    }

    private void same(String call, long got, long due) {
        calls++;
        Check.is(call + ", call " + calls, got, due);
    }

    private void tell() {
        for (int at = 0; at < text.length(); at += 20) {
            int[] v = new int[5];
            for (int i = 0; i < 20; i++) v[i / 4] = v[i / 4] << 8 | (at + i < text.length() ? text.charAt(at + i) : ' ');
            same("feed", mine.feed(v[0], v[1], v[2], v[3], v[4]), naive.feed(v[0], v[1], v[2], v[3], v[4]));
        }
        same("book", mine.book(text.length()), naive.book(text.length()));
    }

    private void unbooked(int kind) {
        while (calls < MOST_CALLS) call(kind);
    }

    private void ofOneKind(int kind) {
        prepare();
        while (calls < MOST_CALLS) call(kind);
    }

    private void amongChanges(int kind) {
        prepare();
        while (calls < MOST_CALLS - 1) {
            call(5 + dice.nextInt(5));
            call(kind);
        }
    }

    private void ofAllKinds() {
        prepare();
        while (calls < MOST_CALLS) {
            int kind = dice.nextInt(KINDS.length);
            if (kind > 1) call(kind);
        }
    }

    private void prepare() {
        tell();
        Check.is(text, mine.count(0) > 0, true);
        same("mark", mine.mark(700) ? 1 : 0, naive.mark(700) ? 1 : 0);
        for (int i = 0; i < 3; i++) call(20);
        for (int i = 0; i < 4; i++) call(22);
        for (int i = 0; i < 2; i++) call(25);
        call(8);
    }

    private void call(int kind) {
        if (kind < 10) tellOrChange(kind);
        else if (kind < 19) ask(kind);
        else askMore(kind);
    }

    private void tellOrChange(int kind) {
        int i = way();
        boolean on = dice.nextBoolean();
        switch (KINDS[kind]) {
            case "feed" -> same("feed", mine.feed(i, 2, 3, 4, 5), naive.feed(i, 2, 3, 4, 5));
            case "book" -> same("book", mine.book(i), naive.book(i));
            case "fault" -> same("fault", mine.fault(), naive.fault());
            case "where" -> same("where", mine.where(), naive.where());
            case "way" -> {
                int what = from(-1, 11);
                same("way", mine.way(i, what), naive.way(i, what));
            }
            case "door" -> {
                int d = from(-1, Math.max(2, naive.count(2)));
                same("door", mine.door(d, on) ? 1 : 0, naive.door(d, on) ? 1 : 0);
            }
            case "speed" -> {
                int f = from(-1, Math.max(2, naive.count(4)));
                int s = from(-4, 4);
                same("speed", mine.speed(f, s) ? 1 : 0, naive.speed(f, s) ? 1 : 0);
            }
            case "fall" -> {
                boolean fallen = on && from(0, 3) == 0;
                same("fall", mine.fall(i, fallen) ? 1 : 0, naive.fall(i, fallen) ? 1 : 0);
            }
            case "fire" -> {
                int push = from(-400, 400);
                same("fire", mine.fire(i, push) ? 1 : 0, naive.fire(i, push) ? 1 : 0);
            }
            default -> {
                int m = from(-1, 1001);
                same("mark", mine.mark(m) ? 1 : 0, naive.mark(m) ? 1 : 0);
            }
        }
    }

    private void ask(int kind) {
        int w = way();
        boolean on = dice.nextBoolean();
        switch (KINDS[kind]) {
            case "air" -> same("air", mine.air(w), naive.air(w));
            case "cost" -> same("cost", mine.cost(), naive.cost());
            case "turned" -> {
                int f = from(-1, Math.max(2, naive.count(4)));
                same("turned", mine.turned(f), naive.turned(f));
            }
            case "gas" -> same("gas", mine.gas(w), naive.gas(w));
            case "thick" -> same("thick", mine.thick(w), naive.thick(w));
            case "over" -> same("over", mine.over(), naive.over());
            case "sound" -> same("sound", mine.sound(), naive.sound());
            case "failing" -> same("failing", mine.failing(on), naive.failing(on));
            default -> same("setting", mine.setting(), naive.setting());
        }
    }

    private void askMore(int kind) {
        int i = way();
        switch (KINDS[kind]) {
            case "smoke" -> same("smoke", mine.smoke(i), naive.smoke(i));
            case "man" -> same("man", mine.man(i), naive.man(i));
            case "out" -> same("out", mine.out(i), naive.out(i));
            case "change" -> {
                int of = from(0, 2);
                int value = of == 1 ? from(-3, 3) : from(0, 1);
                same("change", mine.change(of, i, value), naive.change(of, i, value));
            }
            case "order" -> same("order", mine.order(i), naive.order(i));
            case "make" -> same("make", mine.make(), naive.make());
            case "reading" -> {
                int low = from(-20, 5);
                int high = from(4, 40);
                same("reading", mine.reading(i, low, high), naive.reading(i, low, high));
            }
            case "fits" -> {
                int more = from(0, 3) == 0 ? from(-1, 10000) : from(0, 40);
                same("fits", mine.fits(more), naive.fits(more));
            }
            case "led" -> led(from(0, 2), from(-1, 7));
            case "count" -> same("count", mine.count(i), naive.count(i));
            default -> same("trouble", mine.trouble(), naive.trouble());
        }
    }

    private void led(int man, int i) {
        int due;
        try {
            due = naive.led(man, i);
        } catch (NoSuchElementException e) {
            due = -9;
        }
        same("led", Check.led(mine, man, i), due);
    }

    /** As many full TAPES as 512 calls can bring, good and bad by turns. */
    private static void manyBooks() {
        String lead = Lines.book(Lines.drawn("a", "day x", 1, 51), Lines.way("b", "x day", 1)) + ";";
        MineAir mine = new MineAir();
        for (int books = 0; books < 512 / 32; books++) {
            String last = Lines.way("c", "x day", books + 1);
            String text = lead + " ".repeat(600 - lead.length() - last.length()) + last;
            if (books % 2 == 1) text = text.substring(0, 599) + "?";
            Check.is("a TAPE of 600", Check.feed(mine, text), 600);
            Check.is("its BOOK", mine.book(600), books % 2 == 1 ? -1 : 3);
            Check.is("the latest good one's", mine.way(2, 2), books - books % 2 + 1);
        }
    }

    private static MineAir dear(int need) {
        return Lines.mine(Lines.way("a", "day p", 3), Lines.way("b", "p q", 4), Lines.way("c", "q r", 5), Lines.way("d", "r s", 9),
                Lines.way("e", "s day", 2), Lines.way("f", "p r", 2), Lines.way("g", "q s", 3), Lines.way("h", "p s", 8), Lines.way("i", "r day", 6),
                Lines.way("j", "q day", 7), Lines.fan("m", "a", 400, 1, 7), Lines.fan("n", "e", 300, 0, 3), Lines.fan("o", "d", 250, 2, 5),
                Lines.fan("t", "j", 200, 1, 4), Lines.face("u", "d", 0, need), Lines.face("v", "a", 0, 5));
    }

    /** SETTING of four FANS, sought anew each time, against all 256 tried by hand. */
    private static void dearSettings() {
        MineAir mine = dear(3);
        for (int i = 0; i < 240; i++) {
            int push = i * 41 % 900 - 450;
            mine.fire(i % 10, push);
            int got = mine.setting();
            if (i % 40 == 0) Check.is("setting() " + i, got, triedSetting(mine));
        }
        mine = dear(60);
        for (int i = 0; i < 240; i++) {
            mine.fire(i % 10, i * 41 % 900 - 450);
            Check.refused(mine, "none does", mine.setting(), -1, 6);
        }
    }

    private static int triedSetting(MineAir like) {
        int best = -1;
        int bestCost = Integer.MAX_VALUE;
        int[] costs = {7, 3, 5, 4};
        // the first FAN's SPEED is the highest sign here: of like costs the first one met stays
        for (int code = 0; code < 256; code++) {
            MineAir mine = dear(3);
            for (int w = 0; w < 10; w++) mine.fire(w, like.way(w, 10));
            int cost = 0;
            int answer = 0;
            for (int f = 0; f < 4; f++) {
                int speed = code >> 2 * (3 - f) & 3;
                mine.speed(f, speed);
                cost += speed * costs[f];
                answer += speed << 2 * f;
            }
            if (cost >= bestCost || mine.sound() != 0) continue;
            best = answer;
            bestCost = cost;
        }
        return best;
    }

    /** THE ORDER of five CHANGES, sought anew each time. */
    private static void dearOrders() {
        MineAir mine = dear(0);
        for (int i = 0; i < 5; i++) mine.change(i % 2 + 1, i % 4, i % 2);
        int safe = 0;
        for (int i = 0; i < 250; i++) {
            mine.fire(i % 10, i * 77 % 1900 - 950);
            int first = mine.order(0);
            Check.is("a CHANGE or none", first >= -2 && first != -1 && first < 5, true);
            if (first >= 0) safe++;
        }
        Check.is("some are SAFE, some aren't", safe > 0 && safe < 250, true);
    }
}
