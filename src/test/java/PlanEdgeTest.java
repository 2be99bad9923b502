import java.util.ArrayList;
import java.util.List;

/** Terms V and promises 19, 20, 24 to 28 at their edges: FAILING, SETTING, CHANGES, THE ORDER, READINGS, FITS. */
public final class PlanEdgeTest {
    private static final int[] FAR = {Integer.MIN_VALUE, -1, Integer.MAX_VALUE};

    public static void main(String[] args) {
        noBook();
        failingFans();
        failingWays();
        settingOfFour();
        settingOfLikeCosts();
        settingWithinNoughtAndThree();
        changeNumbers();
        fiveChanges();
        orderNumbers();
        soundAheadAndBehindEach();
        leastNumbersFirst();
        notTheFirstThatIsSafe();
        makeAll();
        readingNumbers();
        eightReadings();
        withinReadings();
        eachOfItsWay();
        fitsNumbers();
        moreHindrance();
        Check.end();
    }

    private static void noBook() {
        MineAir mine = new MineAir();
        Check.refused(mine, "failing(true)", mine.failing(true), -1, 1);
        Check.refused(mine, "failing(false)", mine.failing(false), -1, 1);
        Check.refused(mine, "setting()", mine.setting(), -1, 1);
        for (int i : new int[] {FAR[0], FAR[1], 0, 1, FAR[2]}) {
            for (int kind = -1; kind <= 3; kind++) Check.refused(mine, "change", mine.change(kind, i, 0), -1, 1);
            Check.refused(mine, "order(" + i + ")", mine.order(i), -1, 1);
            Check.refused(mine, "reading(" + i + ")", mine.reading(i, 0, 0), -1, 1);
            Check.refused(mine, "1 ahead of 2 and 5: fits(" + i + ")", mine.fits(i), -1, 1);
        }
        Check.refused(mine, "make()", mine.make(), -1, 5);
    }

    /** Rounds by day, each with a FAN of push 60: SPEEDS 1, 2, 3 bring AIR 5, 7, 9. */
    private static MineAir rounds(int[] costs, int[] needs) {
        List<String> lines = new ArrayList<>();
        for (int i = 0; i < costs.length; i++) {
            String x = "x" + (char) ('a' + i);
            lines.add(Lines.way("a" + (char) ('a' + i), "day " + x, 1));
            lines.add(Lines.way("b" + (char) ('a' + i), x + " day", 1));
        }
        for (int i = 0; i < costs.length; i++) {
            lines.add(Lines.fan("f" + (char) ('a' + i), "a" + (char) ('a' + i), 60, 0, costs[i]));
            lines.add(Lines.face("g" + (char) ('a' + i), "b" + (char) ('a' + i), 0, needs[i]));
        }
        return Lines.mine(lines.toArray(new String[0]));
    }

    /** "single FANS at SPEED 0, all else as it is, with which the STATE isn't SOUND". */
    private static void failingFans() {
        MineAir mine = rounds(new int[] {1, 1, 1, 1}, new int[] {1, 0, 5, 1});
        Check.refused(mine, "the second moves nothing that is needed", mine.failing(false), 13, 0);
        Check.refused(mine, "nothing has changed", mine.sound(), 0, 0);
        for (int f = 0; f < 4; f++) Check.is("AIR of round " + f, mine.air(2 * f), 5);
        mine.speed(1, 0);
        Check.refused(mine, "one at SPEED 0 already, SOUND", mine.failing(false), 13, 0);
        mine.speed(0, 0);
        Check.refused(mine, "one at SPEED 0 already, not SOUND", mine.failing(false), 15, 0);
        mine.speed(0, -3);
        mine.speed(3, -1);
        Check.refused(mine, "turned about, SOUND", mine.sound(), 0, 0);
        Check.refused(mine, "turned about", mine.failing(false), 13, 0);
        mine.fire(0, 100);
        Check.refused(mine, "with a FIRE one does without it", mine.failing(false), 12, 0);
        mine = Lines.mine(Lines.way("a", "day x", 1));
        Check.refused(mine, "no FANS", mine.failing(false), 0, 0);
    }

    /** 14 WAYS: the last two are a round with a FACE. */
    private static MineAir fourteen(int need) {
        List<String> lines = new ArrayList<>();
        for (int w = 0; w < 14; w++) {
            String name = "" + (char) ('a' + w);
            if (w == 13) lines.add(Lines.way(name, "z day", 1));
            else if (w == 12) lines.add(Lines.drawn(name, "day z", 1, 51));
            else lines.add(Lines.way(name, "p day", 1));
        }
        lines.add(Lines.face("gg", "n", 0, need));
        return Lines.mine(lines.toArray(new String[0]));
    }

    /** "(or WAYS that aren't fallen) as bits", up to the fourteenth. */
    private static void failingWays() {
        MineAir mine = fourteen(5);
        Check.refused(mine, "the last two", mine.failing(true), 3 << 12, 0);
        mine.fall(0, true);
        mine.fall(5, true);
        Check.refused(mine, "others are fallen", mine.failing(true), 3 << 12, 0);
        mine.fall(13, true);
        Check.refused(mine, "not SOUND: all that aren't fallen", mine.failing(true), 16383 & ~(1 | 1 << 5 | 1 << 13), 0);
        for (int w = 0; w < 14; w++) mine.fall(w, true);
        Check.refused(mine, "all are fallen", mine.failing(true), 0, 0);
        Check.is("and stay so", mine.way(7, 9), 1);
        mine = fourteen(0);
        Check.refused(mine, "none is needed", mine.failing(true), 0, 0);
        mine = fourteen(6);
        Check.refused(mine, "none would do", mine.failing(true), 16383, 0);
    }

    private static MineAir asked(MineAir mine, String when, int due) {
        String before = Look.at(mine);
        Check.refused(mine, when, mine.setting(), due, due < 0 ? 6 : 0);
        Look.same(when + ": nothing is set", mine, before);
        return mine;
    }

    /** "SPEED times 4 to the power of the FAN's number, together". */
    private static void settingOfFour() {
        int[] costs = {99, 1, 50, 7};
        int[] needs = {0, 5, 7, 9};
        int[] speeds = {0, 1, 2, 3};
        for (int turn = 0; turn < 4; turn++) {
            int[] asked = new int[4];
            int due = 0;
            for (int f = 0; f < 4; f++) {
                asked[f] = needs[(f + turn) % 4];
                due += speeds[(f + turn) % 4] << 2 * f;
            }
            MineAir mine = asked(rounds(costs, asked), "turn " + turn, due);
            for (int f = 0; f < 4; f++) mine.speed(f, -3);
            asked(mine, "whatever they are now", due);
        }
        asked(rounds(costs, new int[] {9, 9, 9, 9}), "all at 3", 255);
        asked(rounds(costs, new int[] {0, 0, 0, 0}), "all at 0", 0);
        asked(rounds(costs, new int[] {0, 0, 0, 10}), "one can't", -1);
        asked(rounds(costs, new int[] {5, 5, 5, 5}), "all at 1", 85);
    }

    /** FANS of push 30 in one round: their SPEEDS count together. */
    private static MineAir together(int need, int... costs) {
        List<String> lines = new ArrayList<>();
        for (int i = 0; i < costs.length; i++) {
            String from = i == 0 ? "day" : "x" + (char) ('a' + i);
            String to = i == costs.length - 1 ? "day" : "x" + (char) ('a' + i + 1);
            lines.add(Lines.way("a" + (char) ('a' + i), from + " " + to, 1));
        }
        for (int i = 0; i < costs.length; i++) {
            lines.add(Lines.fan("f" + (char) ('a' + i), "a" + (char) ('a' + i), 30, 0, costs[i]));
        }
        lines.add(Lines.face("g", "aa", 0, need));
        return Lines.mine(lines.toArray(new String[0]));
    }

    /** "of as cheap ones the one with the lesser SPEED of the first FAN where they differ". */
    private static void settingOfLikeCosts() {
        // four WAYS of hinder 1: AIR 5 from 101 on, that is four pushes together
        asked(together(5, 1, 1, 1, 1), "four of 0 0 1 3", 1 << 4 | 3 << 6);
        asked(together(5, 2, 1, 1, 2), "the middle ones are cheaper", 1 << 2 | 3 << 4);
        asked(together(5, 1, 1, 1, 99), "the last is dear", 1 << 2 | 3 << 4);
        asked(together(5, 1, 99, 99, 99), "the first is cheap", 3 | 1 << 6);
        asked(together(5, 99, 99, 1, 99), "the third is cheap", 3 << 4 | 1 << 6);
        // three WAYS: AIR 3 from 28 on, AIR 4 from 49 on
        asked(together(3, 1, 1, 2), "one push, the last is dear", 1 << 2);
        asked(together(4, 3, 2, 1), "two pushes, the last is cheap", 2 << 4);
        asked(together(4, 1, 1, 1), "two pushes, all alike", 2 << 4);
    }

    /** "SPEEDS 0 .. 3 for all FANS, all else as it is". */
    private static void settingWithinNoughtAndThree() {
        MineAir mine = rounds(new int[] {1}, new int[] {9});
        asked(mine, "3 is the most", 3);
        mine.fire(0, -20);
        asked(mine, "160 is too little for 9", -1);
        mine.speed(0, -3);
        Check.refused(mine, "SOUND with SPEED -3", mine.sound(), 0, 0);
        asked(mine, "which is none of 0 .. 3", -1);
        mine.fire(0, -163);
        asked(mine, "0 is the least", 0);
        mine.fire(0, 0);
        mine.fall(1, true);
        asked(mine, "a WAY is fallen", -1);
        mine = Lines.mine(Lines.drawn("a", "day x", 1, 60), Lines.way("b", "x day", 1), Lines.face("g", "a", 0, 5));
        asked(mine, "no FANS, SOUND", 0);
        mine.fire(0, -10);
        asked(mine, "no FANS, not SOUND", -1);
    }

    private static MineAir twoOfEach() {
        return Lines.mine(Lines.drawn("a", "day x", 1, 51), Lines.way("b", "x day", 1), Lines.way("c", "x day", 1), Lines.door("p", "a", 9),
                Lines.door("q", "b", 9), "pair p q", Lines.fan("f", "a", 60, 0, 1), Lines.fan("g", "b", 60, 0, 1));
    }

    /** change(): "NONE: 1 (kind, too); 2; 3". */
    private static void changeNumbers() {
        MineAir mine = twoOfEach();
        for (int kind : new int[] {FAR[0], -1, 3, 4, FAR[2]}) {
            for (int value : new int[] {0, 1, 9}) Check.refused(mine, "kind " + kind, mine.change(kind, 0, value), -1, 1);
        }
        int[] room = {2, 2, 3};
        for (int kind = 0; kind <= 2; kind++) {
            for (int which : new int[] {FAR[0], -1, room[kind], FAR[2]}) {
                Check.refused(mine, "1 ahead of 2", mine.change(kind, which, 9), -1, 1);
                Check.refused(mine, "kind " + kind + ", " + which, mine.change(kind, which, 0), -1, 1);
            }
            for (int value : kind == 1 ? new int[] {FAR[0], -4, 4, FAR[2]} : new int[] {FAR[0], -1, 2, FAR[2]}) {
                Check.refused(mine, "kind " + kind + " to " + value, mine.change(kind, room[kind] - 1, value), -1, 2);
            }
        }
        Check.is("none of them is there", mine.count(7), 0);
        int[][] fine = {{0, 1, 0}, {0, 1, 1}, {1, 1, -3}, {1, 1, 3}, {2, 2, 0}, {2, 2, 1}, {0, 0, 0}, {1, 0, 0}, {2, 0, 1}};
        for (int[] c : fine) {
            mine = twoOfEach();
            Check.refused(mine, "the last inside", mine.change(c[0], c[1], c[2]), 0, 0);
            Check.is("it is there", mine.count(7), 1);
        }
    }

    /** "CHANGES: up to 5". */
    private static void fiveChanges() {
        MineAir mine = twoOfEach();
        for (int i = 0; i < 5; i++) {
            Check.refused(mine, "CHANGE " + i, mine.change(1, 0, 1), i, 0);
            Check.is("so many", mine.count(7), i + 1);
        }
        Check.refused(mine, "a sixth", mine.change(1, 0, 1), -1, 3);
        Check.refused(mine, "2 ahead of 3", mine.change(1, 0, 4), -1, 2);
        Check.refused(mine, "1 ahead of 3", mine.change(1, 2, 4), -1, 1);
        Check.refused(mine, "1 ahead of 3", mine.change(3, 0, 0), -1, 1);
        Check.is("five still", mine.count(7), 5);
        for (int i = 0; i < 5; i++) Check.refused(mine, "order(" + i + ")", mine.order(i), i, 0);
        Check.refused(mine, "make()", mine.make(), 5, 0);
        Check.refused(mine, "room again", mine.change(1, 0, 1), 0, 0);
    }

    private static void orders(MineAir mine, String when, int... due) {
        String before = Look.at(mine);
        Check.is(when + ": CHANGES", mine.count(7), due.length);
        for (int i = 0; i < due.length; i++) Check.refused(mine, when + ": order(" + i + ")", mine.order(i), due[i], 0);
        for (int i : new int[] {FAR[0], -1, due.length, due.length + 1, FAR[2]}) {
            Check.refused(mine, when + ": order(" + i + ")", mine.order(i), -1, 1);
        }
        Look.same(when + ": nothing is made", mine, before);
    }

    private static void orderNumbers() {
        MineAir mine = twoOfEach();
        orders(mine, "no CHANGES");
        mine.change(1, 0, 2);
        orders(mine, "one", 0);
        mine.change(1, 1, 2);
        orders(mine, "two", 0, 1);
        mine.door(0, true);
        mine.door(1, true);
        orders(mine, "i is looked at ahead of THE ORDER", -2, -2);
    }

    /** "SAFE if the STATE is SOUND ahead of all and behind each". */
    private static void soundAheadAndBehindEach() {
        MineAir mine = twoOfEach();
        mine.door(0, true);
        mine.door(1, true);
        mine.change(0, 0, 0);
        orders(mine, "not SOUND ahead of all, but behind", -2);
        Check.refused(mine, "make()", mine.make(), -1, 6);
        Check.is("nothing is made", mine.way(0, 2), 1);
        mine.door(1, false);
        orders(mine, "SOUND ahead of all", 0);
        mine = twoOfEach();
        mine.change(0, 0, 1);
        orders(mine, "one of the PAIR", 0);
        mine.change(0, 1, 1);
        orders(mine, "not SOUND behind the last", -2, -2);
        mine.change(0, 0, 0);
        orders(mine, "the PAIR never both", 0, 2, 1);
        mine.change(2, 0, 1);
        orders(mine, "a WAY that nothing needs", 0, 2, 1, 3);
        // each CHANGE alone would do, and both would, but there is no way between
        mine = Lines.mine(Lines.drawn("a", "day x", 1, 51), Lines.way("b", "x day", 1), Lines.way("c", "x day", 1),
                Lines.face("g", "a", 0, 5), Lines.fan("f", "a", 50, 0, 1), Lines.fan("h", "b", 50, 0, 1));
        mine.fall(2, true);
        mine.speed(1, 0);
        mine.change(1, 0, 0);
        orders(mine, "SPEED 0 is enough", 0);
        mine.change(1, 1, -1);
        orders(mine, "SPEED -1 as well isn't", -2, -2);
        mine.change(1, 1, 0);
        orders(mine, "but ahead of it", 1, 2, 0);
    }

    /** "the SAFE one whose first CHANGE has the least number, of these whose second, and so on". */
    private static void leastNumbersFirst() {
        MineAir mine = twoOfEach();
        mine.door(0, true);
        mine.change(0, 1, 1);
        mine.change(1, 0, 0);
        mine.change(0, 0, 0);
        mine.change(1, 1, 0);
        mine.change(2, 2, 1);
        orders(mine, "0 as soon as 2 is made", 1, 2, 0, 3, 4);
        mine = twoOfEach();
        mine.door(0, true);
        mine.change(2, 2, 1);
        mine.change(2, 2, 0);
        mine.change(0, 1, 1);
        mine.change(1, 1, 3);
        mine.change(0, 0, 0);
        orders(mine, "2 as soon as 4 is made", 0, 1, 3, 4, 2);
        Check.refused(mine, "make()", mine.make(), 5, 0);
        Check.is("the WAY is free", mine.way(2, 9), 0);
        Check.is("p is shut", mine.way(0, 2), 10);
        Check.is("q is open", mine.way(1, 2), 1);
        mine.fall(2, true);
        mine.change(2, 2, 1);
        mine.change(2, 2, 0);
        orders(mine, "a WAY that is fallen", 0, 1);
        Check.is("it is fallen still", mine.way(2, 9), 1);
        Check.refused(mine, "make()", mine.make(), 2, 0);
        Check.is("it is free", mine.way(2, 9), 0);
    }

    /** A first CHANGE behind which the STATE is SOUND, but no ORDER goes on. */
    private static void notTheFirstThatIsSafe() {
        MineAir mine = twoOfEach();
        mine.door(0, true);
        mine.change(0, 0, 0);
        mine.change(0, 0, 1);
        mine.change(0, 1, 1);
        orders(mine, "p is to be shut last of its two", 1, 0, 2);
        Check.refused(mine, "make()", mine.make(), 3, 0);
        Check.is("p is shut", mine.way(0, 2), 10);
        Check.is("q is open", mine.way(1, 2), 1);
        mine = twoOfEach();
        mine.change(0, 0, 1);
        mine.change(0, 1, 1);
        mine.change(0, 0, 0);
        mine.change(0, 1, 0);
        mine.change(0, 0, 1);
        orders(mine, "five of two DOORS", 0, 2, 1, 3, 4);
        mine.make();
        Check.is("p is open", mine.way(0, 2), 1);
        Check.is("q is shut", mine.way(1, 2), 10);
    }

    /** make(): "how many. NONE: 5 (there are none); 6." */
    private static void makeAll() {
        MineAir mine = twoOfEach();
        Check.refused(mine, "none", mine.make(), -1, 5);
        mine.mark(999);
        mine.man(1);
        mine.fire(2, 3);
        mine.reading(0, 1, 60);
        mine.change(2, 2, 1);
        mine.change(1, 0, -3);
        mine.change(0, 1, 1);
        Check.refused(mine, "three", mine.make(), 3, 0);
        Check.is("there are none then", mine.count(7), 0);
        Check.refused(mine, "order(0)", mine.order(0), -1, 1);
        Check.refused(mine, "make() again", mine.make(), -1, 5);
        Check.is("c is fallen", mine.way(2, 9), 1);
        Check.is("q is open", mine.way(1, 2), 1);
        // -180 + 51 + 60: the round has the HINDRANCE 11
        Check.air(mine, "SPEED -3", -2, -2, 0);
        Check.is("MEN stay", mine.count(6), 1);
        Check.is("READINGS stay", mine.count(8), 1);
        Check.is("FIRE stays", mine.way(2, 10), 3);
    }

    /** reading(): "NONE: 1; 2 (LOW above HIGH); 3". */
    private static void readingNumbers() {
        MineAir mine = twoOfEach();
        for (int w : new int[] {FAR[0], -1, 3, FAR[2]}) {
            Check.refused(mine, "reading(" + w + ")", mine.reading(w, 0, 0), -1, 1);
            Check.refused(mine, "1 ahead of 2", mine.reading(w, 1, 0), -1, 1);
        }
        int[][] wrong = {{1, 0}, {0, -1}, {FAR[2], FAR[0]}, {FAR[2], FAR[2] - 1}, {FAR[0] + 1, FAR[0]}, {60, -60}};
        for (int[] r : wrong) Check.refused(mine, "LOW above HIGH", mine.reading(2, r[0], r[1]), -1, 2);
        Check.is("none is there", mine.count(8), 0);
        int[][] fine = {{0, 0}, {0, 1}, {-1, 0}, {FAR[0], FAR[2]}, {FAR[2], FAR[2]}, {FAR[0], FAR[0]}, {-60, 60}};
        for (int i = 0; i < fine.length; i++) {
            Check.refused(mine, "LOW not above HIGH", mine.reading(2, fine[i][0], fine[i][1]), i + 1, 0);
        }
    }

    /** "READINGS: up to 8". */
    private static void eightReadings() {
        MineAir mine = twoOfEach();
        for (int i = 1; i <= 8; i++) {
            Check.refused(mine, "READING " + i, mine.reading(i % 3, -60, 60), i, 0);
            Check.is("so many", mine.count(8), i);
        }
        Check.refused(mine, "a ninth", mine.reading(0, -60, 60), -1, 3);
        Check.refused(mine, "2 ahead of 3", mine.reading(0, 1, 0), -1, 2);
        Check.refused(mine, "1 ahead of 3", mine.reading(3, 1, 0), -1, 1);
        Check.refused(mine, "all hold", mine.fits(0), 7, 0);
        mine = twoOfEach();
        for (int i = 1; i <= 7; i++) mine.reading(i % 3, -60, 60);
        mine.reading(0, 60, 60);
        Check.refused(mine, "the eighth doesn't", mine.fits(0), 0, 0);
    }

    /** "from LOW to HIGH", both included. */
    private static void withinReadings() {
        for (int sign = -1; sign <= 1; sign += 2) {
            int[][] ranges = {{5, 5}, {4, 5}, {5, 6}, {-60, 60}, {4, 4}, {6, 6}, {6, 60}, {-60, 4}, {-5, -5}, {-5, 4}};
            boolean[] due = {true, true, true, true, false, false, false, false, false, false};
            for (int i = 0; i < ranges.length; i++) {
                MineAir mine = Lines.mine(Lines.drawn("a", "day x", 1, sign * 51), Lines.way("b", "x day", 1));
                Check.air(mine, "round", 5 * sign, 5 * sign);
                int low = sign > 0 ? ranges[i][0] : -ranges[i][1];
                int high = sign > 0 ? ranges[i][1] : -ranges[i][0];
                mine.reading(1, low, high);
                Check.refused(mine, low + " to " + high, mine.fits(0), due[i] ? 3 : 0, 0);
            }
        }
    }

    /** "within all READINGS", each of its own WAY. */
    private static void eachOfItsWay() {
        int[] airs = {7, 3, 4, 0};
        for (int wrong = -1; wrong < 4; wrong++) {
            MineAir mine = Lines.mine(Lines.drawn("a", "day x", 1, 80), Lines.way("b", "x day", 2), Lines.way("c", "x day", 1), Lines.way("d", "x y", 1));
            Check.air(mine, "a fork", airs);
            for (int w = 0; w < 4; w++) mine.reading(w, w == wrong ? airs[w] + 1 : airs[w], 60);
            Check.refused(mine, "READING of " + wrong + " doesn't hold", mine.fits(0), wrong < 0 ? 15 : 0, 0);
        }
    }

    /** fits(): "(0 .. 9,999). NONE: 1 (no BOOK); 2; 5 (no READINGS)". */
    private static void fitsNumbers() {
        MineAir mine = twoOfEach();
        for (int more : new int[] {FAR[0], -1, 10000, FAR[2]}) Check.refused(mine, "2 ahead of 5", mine.fits(more), -1, 2);
        for (int more : new int[] {0, 1, 9999}) Check.refused(mine, "no READINGS", mine.fits(more), -1, 5);
        mine.reading(0, -60, 60);
        for (int more : new int[] {FAR[0], -1, 10000, FAR[2]}) Check.refused(mine, "fits(" + more + ")", mine.fits(more), -1, 2);
        for (int more : new int[] {0, 1, 9998, 9999}) Check.refused(mine, "fits(" + more + ")", mine.fits(more), 7, 0);
        mine.fall(1, true);
        Check.refused(mine, "one is fallen", mine.fits(0), 5, 0);
        mine.fall(0, true);
        mine.fall(2, true);
        Check.refused(mine, "all are fallen", mine.fits(0), 0, 0);
        mine = fourteen(0);
        mine.reading(0, 0, 0);
        Check.refused(mine, "fourteen", mine.fits(9999), 16383, 0);
    }

    /** "with its HINDRANCE more by a told number", be it in a WAY that has all the AIR or none. */
    private static void moreHindrance() {
        int[] mores = {0, 1, 2, 54, 55, 9994, 9995, 9999};
        int[] airs = {44, 40, 37, 13, 12, 1, 0, 0};
        for (int i = 0; i < mores.length; i++) {
            int q = airs[i];
            fitting("as it is", mores[i], q, q, q == 44 ? 7 : 3);
            fitting("more", mores[i], q + 1, 60, q < 44 ? 4 : 0);
            fitting("less", mores[i], -60, q - 1, 0);
        }
    }

    /** A round with the HINDRANCE 5, drawn by 10,000, and a WAY without AIR. */
    private static void fitting(String when, int more, int low, int high, int due) {
        MineAir mine = Lines.mine(Lines.drawn("a", "day x", 1, 5000), Lines.drawn("b", "x day", 1, 5000), Lines.way("c", "p q", 1), Lines.door("d", "a", 3));
        mine.reading(1, low, high);
        String before = Look.at(mine);
        Check.refused(mine, when + " with " + more + " more", mine.fits(more), due, 0);
        Check.refused(mine, "asked again", mine.fits(more), due, 0);
        Look.same("HINDRANCE is as it was", mine, before);
    }
}
