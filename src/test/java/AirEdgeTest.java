import java.util.ArrayList;
import java.util.List;

/** Terms II and promises 6 to 14 at their edges: numbers, STATE at first, AIR -60 .. 60, AIRS of like COST. */
public final class AirEdgeTest {
    private static final int[] FAR = {Integer.MIN_VALUE, -100, -1};

    public static void main(String[] args) {
        noBook();
        asAtFirst();
        wayNumbers();
        doorNumbers();
        speedNumbers();
        fallNumbers();
        fireNumbers();
        markNumbers();
        airNumbers();
        everySpeed();
        roundsByTrial();
        airOfSixty();
        sixtyTogether();
        fallenOnes();
        hindrances();
        likeCosts();
        highestNumberDecides();
        fansFall();
        costs();
        turnedAbout();
        Check.end();
    }

    /** A round by day whose HINDRANCE is 2. */
    private static MineAir round(String... more) {
        String text = Lines.book(Lines.way("a", "day x", 1), Lines.way("b", "x day", 1));
        return Check.of(more.length == 0 ? text : text + ";" + Lines.book(more));
    }

    private static void noBook() {
        MineAir mine = new MineAir();
        for (int i : new int[] {Integer.MIN_VALUE, -1, 0, 1, Integer.MAX_VALUE}) {
            Check.is("way(" + i + ", 0)", mine.way(i, 0), Integer.MIN_VALUE);
            Check.is("air(" + i + ")", mine.air(i), -100);
            Check.denied(mine, "door(" + i + ")", mine.door(i, true), 1);
            Check.denied(mine, "speed(" + i + ")", mine.speed(i, 0), 1);
            Check.denied(mine, "fall(" + i + ")", mine.fall(i, true), 1);
            Check.denied(mine, "fire(" + i + ")", mine.fire(i, 0), 1);
            Check.refused(mine, "turned(" + i + ")", mine.turned(i), -1, 1);
        }
        Check.is("cost()", mine.cost(), 0);
        Check.granted(mine, "MARK needs no BOOK", mine.mark(999));
        Check.denied(mine, "but a number", mine.mark(1000), 2);
    }

    /** "shut at first", "1 at first", "not at first", "0 at first", "10 until told". */
    private static void asAtFirst() {
        MineAir mine = round(Lines.door("p", "a", 7), Lines.fan("f", "b", 73, 0, 1), Lines.face("g", "a", 1, 0));
        Check.is("HINDRANCE with the shut DOOR", mine.way(0, 2), 8);
        Check.denied(mine, "it is shut", mine.door(0, false), 5);
        Check.is("not fallen", mine.way(0, 9), 0);
        Check.denied(mine, "it is free", mine.fall(0, false), 5);
        Check.is("no FIRE", mine.way(0, 10), 0);
        // 9 q q against one push of 73: the second part gains, with the third it would be 81
        Check.air(mine, "SPEED 1", 2, 2);
        Check.is("THICK", mine.thick(0), 500);
        Check.is("OVER 10", mine.over(), 2);
        mine = Lines.mine(Lines.drawn("a", "day x", 1, 5000), Lines.drawn("b", "x day", 1, 5000), Lines.face("g", "a", 1, 0));
        Check.is("60 of AIR", mine.air(0), 60);
        Check.is("THICK 16", mine.thick(0), 16);
        Check.is("OVER 10", mine.over(), 2);
        mine = Lines.mine(Lines.drawn("a", "day x", 1, 5000), Lines.drawn("b", "x day", 1, 5000), Lines.face("g", "a", 0, 0));
        Check.is("THICK 0", mine.over(), 0);
    }

    /** way(): "-2 without one", "-2^31". */
    private static void wayNumbers() {
        MineAir mine = round(Lines.door("p", "b", 7), Lines.fan("f", "b", 1, 0, 1), Lines.face("g", "b", 1, 0));
        for (int what = 6; what <= 8; what++) {
            Check.is("without one", mine.way(0, what), -2);
            Check.is("with the first", mine.way(1, what), 0);
        }
        Check.is("what 0", mine.way(1, 0), 1);
        Check.is("what 10", mine.way(1, 10), 0);
        for (int what : new int[] {Integer.MIN_VALUE, -1, 11, Integer.MAX_VALUE}) {
            Check.is("way(0, " + what + ")", mine.way(0, what), Integer.MIN_VALUE);
        }
        for (int w : new int[] {Integer.MIN_VALUE, -1, 2, 14, Integer.MAX_VALUE}) {
            for (int what = 0; what <= 10; what++) Check.is("way(" + w + ")", mine.way(w, what), Integer.MIN_VALUE);
        }
    }

    private static int[] outside(int count) {
        return new int[] {FAR[0], FAR[1], FAR[2], count, count + 1, 99, Integer.MAX_VALUE};
    }

    private static MineAir twoOfEach() {
        return round(Lines.door("p", "a", 7), Lines.door("q", "b", 5), Lines.fan("f", "a", 1, 0, 1), Lines.fan("g", "b", 1, 0, 1));
    }

    private static void doorNumbers() {
        MineAir mine = twoOfEach();
        for (int d : outside(2)) {
            Check.denied(mine, "door(" + d + ", true)", mine.door(d, true), 1);
            Check.denied(mine, "door(" + d + ", false)", mine.door(d, false), 1);
        }
        Check.granted(mine, "the last", mine.door(1, true));
        Check.denied(mine, "it is open", mine.door(1, true), 5);
        Check.is("it stays open", mine.way(1, 2), 1);
        Check.is("the other is shut", mine.way(0, 2), 8);
        Check.granted(mine, "the first", mine.door(0, true));
        Check.granted(mine, "shut again", mine.door(1, false));
        Check.denied(mine, "it is shut", mine.door(1, false), 5);
        Check.is("HINDRANCE", mine.way(1, 2), 6);
        Check.is("HINDRANCE", mine.way(0, 2), 1);
    }

    private static void speedNumbers() {
        MineAir mine = twoOfEach();
        for (int f : outside(2)) {
            Check.denied(mine, "speed(" + f + ", 1)", mine.speed(f, 1), 1);
            Check.denied(mine, "1 ahead of 2", mine.speed(f, 4), 1);
        }
        for (int s : new int[] {Integer.MIN_VALUE, -4, 4, Integer.MAX_VALUE}) {
            Check.denied(mine, "speed(1, " + s + ")", mine.speed(1, s), 2);
        }
        for (int s = -3; s <= 3; s++) {
            Check.granted(mine, "speed(1, " + s + ")", mine.speed(1, s));
            Check.granted(mine, "the same again", mine.speed(1, s));
        }
    }

    private static void fallNumbers() {
        MineAir mine = twoOfEach();
        for (int w : outside(2)) {
            Check.denied(mine, "fall(" + w + ", true)", mine.fall(w, true), 1);
            Check.denied(mine, "fall(" + w + ", false)", mine.fall(w, false), 1);
        }
        Check.granted(mine, "the last", mine.fall(1, true));
        Check.denied(mine, "it is fallen", mine.fall(1, true), 5);
        Check.is("fallen", mine.way(1, 9), 1);
        Check.is("the other isn't", mine.way(0, 9), 0);
        Check.granted(mine, "free", mine.fall(1, false));
        Check.denied(mine, "it is free", mine.fall(1, false), 5);
        Check.is("free", mine.way(1, 9), 0);
    }

    private static void fireNumbers() {
        MineAir mine = twoOfEach();
        for (int w : outside(2)) {
            Check.denied(mine, "fire(" + w + ", 1)", mine.fire(w, 1), 1);
            Check.denied(mine, "1 ahead of 2", mine.fire(w, 5001), 1);
        }
        for (int push : new int[] {-5000, -4999, -1, 0, 1, 4999, 5000, 5000}) {
            Check.granted(mine, "fire(1, " + push + ")", mine.fire(1, push));
            Check.is("FIRE", mine.way(1, 10), push);
            for (int far : new int[] {Integer.MIN_VALUE, -5001, 5001, Integer.MAX_VALUE}) {
                Check.denied(mine, "fire(1, " + far + ")", mine.fire(1, far), 2);
            }
            Check.is("FIRE as it was", mine.way(1, 10), push);
            Check.is("none in the other", mine.way(0, 10), 0);
        }
    }

    private static void markNumbers() {
        MineAir mine = twoOfEach();
        for (int m : new int[] {Integer.MIN_VALUE, -1, 0, 1000, 1001, Integer.MAX_VALUE}) {
            Check.denied(mine, "mark(" + m + ")", mine.mark(m), 2);
        }
        for (int m : new int[] {1, 2, 998, 999, 999}) Check.granted(mine, "mark(" + m + ")", mine.mark(m));
    }

    /** air(): "-100 for none such". */
    private static void airNumbers() {
        MineAir mine = twoOfEach();
        mine.mark(0);
        for (int w : outside(2)) Check.is("air(" + w + ")", mine.air(w), -100);
        Check.is("air(1)", mine.air(1), 0);
        Check.is("no number is told of it", mine.trouble(), 2);
    }

    /** The AIR of a round, by trying all of them: STEPS as the document tells them. */
    private static int tried(long hindrance, long pull, long fall) {
        int best = 0;
        for (int q = -60; q <= 60; q++) {
            long here = tried(hindrance, pull, fall, q);
            long there = tried(hindrance, pull, fall, best);
            if (here < there || here == there && Math.abs(q) < Math.abs(best)) best = q;
        }
        return best;
    }

    private static long tried(long hindrance, long pull, long fall, int upTo) {
        long sum = 0;
        for (int q = 1; q <= upTo; q++) sum += hindrance * q * q - pull + fall * q;
        for (int q = 0; q > upTo; q--) sum -= -hindrance * (1 - q) * (1 - q) - pull + fall * q;
        return sum;
    }

    private static void sameAsTried(MineAir mine, String when, long hindrance, long pull, long fall) {
        int q = tried(hindrance, pull, fall);
        Check.air(mine, when, q, q);
        Check.is(when + ": cost()", mine.cost(), tried(hindrance, pull, fall, q));
    }

    /** "a SPEED -3 .. 3": "less push times SPEED", with the least and the greatest push and fall. */
    private static void everySpeed() {
        int[] pushes = {1, 2, 3, 998, 999};
        int[] falls = {0, 1, 98, 99};
        for (int push : pushes) {
            for (int fall : falls) {
                MineAir mine = round(Lines.fan("f", "b", push, fall, 1));
                for (int s = -3; s <= 3; s++) {
                    mine.speed(0, s);
                    String when = "push " + push + " fall " + fall + " SPEED " + s;
                    sameAsTried(mine, when, 2, (long) push * s, fall);
                    mine.fire(0, 5000);
                    sameAsTried(mine, when + " and a FIRE", 2, (long) push * s + 5000, fall);
                    mine.fire(0, -5000);
                    sameAsTried(mine, when + " and a FIRE back", 2, (long) push * s - 5000, fall);
                    mine.fire(0, 0);
                }
            }
        }
    }

    /** Where a STEP costs nothing it isn't taken, be it forth or back. */
    private static void roundsByTrial() {
        MineAir mine = round();
        for (int push = -80; push <= 80; push++) {
            mine.fire(1, push);
            sameAsTried(mine, "FIRE " + push, 2, push, 0);
        }
        mine = Lines.mine(Lines.drawn("a", "day x", 99, -5000), Lines.drawn("b", "x day", 99, -5000), Lines.door("p", "a", 99));
        for (int push = -5000; push <= 5000; push += 125) {
            mine.fire(1, push);
            sameAsTried(mine, "against draughts, FIRE " + push, 297, push - 10000, 0);
        }
    }

    /** "a whole number -60 .. 60". */
    private static void airOfSixty() {
        int[] pulls = {2 * 59 * 59, 2 * 59 * 59 + 1, 7200, 7201, 2 * 61 * 61, 2 * 61 * 61 + 1, 10000};
        int[] due = {58, 59, 59, 60, 60, 60, 60};
        for (int i = 0; i < pulls.length; i++) {
            MineAir mine = Lines.mine(Lines.drawn("a", "day x", 1, 5000), Lines.way("b", "x day", 1));
            mine.fire(1, pulls[i] - 5000);
            Check.air(mine, "drawn by " + pulls[i], due[i], due[i]);
            mine = Lines.mine(Lines.drawn("a", "day x", 1, -5000), Lines.way("b", "x day", 1));
            mine.fire(1, 5000 - pulls[i]);
            Check.air(mine, "drawn by " + -pulls[i], -due[i], -due[i]);
        }
    }

    /** Where two WAYS go on as one of 60, and one of them is drawn to more than its share. */
    private static void sixtyTogether() {
        MineAir mine = Lines.mine(Lines.drawn("a", "x day", 1, 5000), Lines.drawn("b", "day x", 1, 5000),
                Lines.drawn("c", "day x", 1, 5000));
        Check.air(mine, "60 of two", 60, 30, 30);
        mine.fire(2, 2000);
        // what c has more, b has less: the last parts of both cost alike
        Check.is("60 at most", mine.air(0), 60);
        Check.is("of both together", mine.air(1) + mine.air(2), 60);
        Check.is("c has more", mine.air(2) > mine.air(1), true);
        mine.fire(2, 5000);
        mine.fire(1, -5000);
        Check.is("c itself", mine.air(2), 60);
        Check.is("b brings none", mine.air(1), 0);
    }

    /** "0 in a fallen one", whatever draws it. */
    private static void fallenOnes() {
        MineAir mine = Lines.mine(Lines.drawn("a", "day x", 1, 200), Lines.drawn("b", "x day", 1, 200), Lines.way("c", "x day", 1),
                Lines.fan("f", "b", 999, 0, 1));
        mine.fire(1, 5000);
        mine.fall(1, true);
        Check.air(mine, "b is fallen", 9, 0, 9);
        Check.is("its STEPS cost nothing", mine.cost(), tried(2, 200, 0, 9));
        mine.fall(2, true);
        Check.air(mine, "b and c", 0, 0, 0);
        Check.is("cost()", mine.cost(), 0);
        mine.fall(1, false);
        int q = tried(2, 200 + 200 + 999 + 5000, 0);
        Check.air(mine, "c alone", q, q, 0);
        mine.fall(0, true);
        Check.air(mine, "a and c", 0, 0, 0);
        mine.fall(2, false);
        Check.air(mine, "round by b and c", 0, tried(2, 200 + 999 + 5000, 0), -tried(2, 200 + 999 + 5000, 0));
    }

    /** "its hinder, and its DOOR's by if that is shut". */
    private static void hindrances() {
        for (int by : new int[] {1, 99}) {
            for (int hinder : new int[] {1, 99}) {
                MineAir mine = Lines.mine(Lines.drawn("a", "day x", hinder, 5000), Lines.way("b", "x day", 1), Lines.door("p", "a", by));
                Check.is("shut", mine.way(0, 2), hinder + by);
                sameAsTried(mine, "shut", hinder + by + 1, 5000, 0);
                mine.door(0, true);
                Check.is("open", mine.way(0, 2), hinder);
                sameAsTried(mine, "open", hinder + 1, 5000, 0);
                Check.is("b has no DOOR", mine.way(1, 2), 1);
            }
        }
    }

    /** "of several the one with the least sum": of like WAYS those of the least numbers have the AIR. */
    private static void likeCosts() {
        for (int parts = 0; parts <= 13; parts++) {
            for (int sign = -1; sign <= 1; sign += 2) {
                List<String> lines = new ArrayList<>();
                lines.add(Lines.drawn("a", "x day", 1, sign * (parts * parts + 51)));
                for (int w = 1; w < 14; w++) lines.add(Lines.way(String.valueOf((char) ('a' + w)), "day x", 50));
                MineAir mine = Lines.mine(lines.toArray(new String[0]));
                int[] due = new int[14];
                // without a part the first one would be the first that gains nothing
                due[0] = sign * parts;
                for (int w = 1; w <= parts; w++) due[w] = sign;
                Check.air(mine, parts + " parts", due);
            }
        }
    }

    /** "3 to the power of that number": one WAY against nine of lesser numbers, each place of it among them. */
    private static void highestNumberDecides() {
        for (int ahead = 0; ahead <= 3; ahead += 3) {
            for (int place = 0; place <= 9; place++) {
                List<String> lines = new ArrayList<>();
                for (int i = 0; i < ahead; i++) lines.add(Lines.way("f" + (char) ('a' + i), "kc kd", 99));
                int link = 0;
                for (int i = 0; i < 10; i++) {
                    if (i == place) lines.add(Lines.way("w", "day kj", 9));
                    else lines.add(Lines.way("l" + (char) ('a' + link), knot(link) + " " + knot(++link), 1));
                }
                lines.add(Lines.drawn("z", "kj day", 1, 11));
                MineAir mine = Lines.mine(lines.toArray(new String[0]));
                boolean direct = place < 9;
                for (int i = 0; i < 10; i++) {
                    Check.is("one against nine, at " + place, mine.air(ahead + i), (i == place) == direct ? 1 : 0);
                }
                Check.is("cost() is the same", mine.cost(), 9 + 1 - 11);
            }
        }
    }

    private static String knot(int i) {
        return i == 0 ? "day" : "k" + (char) ('a' + i);
    }

    /** "and fall times q more": for a STEP to 0 none, for one from there back less. */
    private static void fansFall() {
        MineAir mine = round(Lines.fan("f", "a", 1, 50, 1));
        mine.speed(0, 0);
        for (int push = -300; push <= 300; push += 4) {
            mine.fire(1, push);
            sameAsTried(mine, "fall 50, FIRE " + push, 2, push, 50);
        }
        mine.fire(1, 53);
        Check.air(mine, "forth: 2 + 50 against 53", 1, 1);
        mine.fire(1, 52);
        Check.air(mine, "forth: 2 + 50 against 52", 0, 0);
        mine.fire(1, -3);
        Check.air(mine, "back: 2 against 3", -1, -1);
        mine.fire(1, -2);
        Check.air(mine, "back: 2 against 2", 0, 0);
    }

    private static void costs() {
        MineAir mine = round();
        Check.is("no AIR", mine.cost(), 0);
        mine = Lines.mine(Lines.drawn("a", "day x", 1, 5000), Lines.drawn("b", "x day", 1, 5000),
                Lines.fan("f", "a", 999, 0, 1), Lines.fan("g", "b", 999, 0, 1));
        mine.speed(0, 3);
        mine.speed(1, 3);
        mine.fire(0, 5000);
        mine.fire(1, 5000);
        Check.is("the least there is of a round", mine.cost(), 2L * 73810 - 60L * (20000 + 6 * 999));
        mine.mark(0);
        mine.cost();
        Check.is("no number is told of it", mine.trouble(), 2);
    }

    /** turned(): "(neither is 0)". */
    private static void turnedAbout() {
        int[] fires = {-61, -60, -58, -57, -1, 0, 1, 57, 58, 60, 61};
        int[] due = {0, 0, 0, 2, 2, 2, 2, 2, 0, 0, 0};
        MineAir mine = round(Lines.fan("f", "a", 60, 0, 1));
        for (int i = 0; i < fires.length; i++) {
            mine.fire(1, fires[i]);
            String before = Look.at(mine);
            Check.refused(mine, "FIRE " + fires[i], mine.turned(0), due[i], 0);
            Look.same("nothing is turned", mine, before);
        }
        mine.fire(1, 0);
        for (int s = -3; s <= 3; s++) {
            mine.speed(0, s);
            Check.refused(mine, "turned(0) at SPEED " + s, mine.turned(0), s == 0 ? 0 : 2, 0);
        }
        for (int f : outside(1)) Check.refused(mine, "turned(" + f + ")", mine.turned(f), -1, 1);
        mine.fall(1, true);
        Check.refused(mine, "no AIR to be turned", mine.turned(0), 0, 0);
    }
}
