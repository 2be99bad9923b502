/** Terms III and promises 15 to 18 at their edges: day, RINGS, STILL WAYS, rests, MARK, SOUND. */
public final class GasEdgeTest {
    public static void main(String[] args) {
        noBook();
        numbers();
        gasAtDay();
        ringsAndDay();
        ringElsewhere();
        stillWays();
        likeRests();
        greatestRests();
        sharesOfTheFirst();
        sharedTwice();
        mostGas();
        thickDownwards();
        aboveMark();
        belowNeed();
        openPairs();
        firstOfThese();
        Check.end();
    }

    private static void gases(MineAir mine, String when, int... due) {
        for (int w = 0; w < due.length; w++) Check.refused(mine, when + ": gas(" + w + ")", mine.gas(w), due[w], 0);
    }

    private static void thicks(MineAir mine, String when, int... due) {
        for (int w = 0; w < due.length; w++) Check.refused(mine, when + ": thick(" + w + ")", mine.thick(w), due[w], 0);
    }

    private static void noBook() {
        MineAir mine = new MineAir();
        for (int w : new int[] {Integer.MIN_VALUE, -1, 0, 1, Integer.MAX_VALUE}) {
            Check.refused(mine, "gas(" + w + ")", mine.gas(w), -1, 1);
            Check.refused(mine, "thick(" + w + ")", mine.thick(w), -1, 1);
        }
        Check.refused(mine, "over()", mine.over(), -1, 1);
        Check.refused(mine, "sound()", mine.sound(), -1, 1);
    }

    /** A round by x and day, drawn to this AIR, with a FACE in its second WAY. */
    private static MineAir round(int air, int gas, int need) {
        return Lines.mine(Lines.drawn("a", "day x", 1, air == 0 ? 0 : Lines.drawFor(1, air)),
                Lines.drawn("b", "x day", 1, air == 0 ? 0 : Lines.drawFor(1, air) - 1), Lines.face("g", "b", gas, need));
    }

    private static void numbers() {
        MineAir mine = round(5, 7, 0);
        for (int w : new int[] {Integer.MIN_VALUE, -1, 2, 14, Integer.MAX_VALUE}) {
            Check.refused(mine, "gas(" + w + ")", mine.gas(w), -1, 1);
            Check.refused(mine, "thick(" + w + ")", mine.thick(w), -1, 1);
        }
        gases(mine, "the first and the last", 0, 7);
    }

    /** "at day what comes is gone, and none goes in". */
    private static void gasAtDay() {
        MineAir mine = Lines.mine(Lines.drawn("a", "x day", 1, 20), Lines.way("b", "day x", 1),
                Lines.way("c", "day y", 1), Lines.way("d", "y day", 1), Lines.face("g", "a", 9, 0), Lines.face("h", "c", 4, 0),
                Lines.fan("f", "c", 20, 0, 1));
        Check.air(mine, "two rounds", 3, 3, 3, 3);
        gases(mine, "a's is gone at day", 9, 0, 4, 4);
        mine.fire(0, -40);
        mine.speed(0, -1);
        Check.air(mine, "the other way round", -3, -3, -3, -3);
        gases(mine, "b has a's, d has none", 9, 9, 4, 0);
        // the same without day: all go round and round
        mine = Lines.mine(Lines.drawn("a", "x dai", 1, 20), Lines.way("b", "dai x", 1), Lines.face("g", "a", 9, 0));
        Check.refused(mine, "no day", mine.gas(0), -1, 5);
    }

    /** "Only if no ring of AIR leads round without day (a RING else)". */
    private static void ringsAndDay() {
        MineAir mine = Lines.mine(Lines.drawn("a", "day x", 1, 20), Lines.way("b", "x y", 1), Lines.way("c", "y day", 1));
        Check.refused(mine, "a round by day is none", mine.sound(), 0, 0);
        mine = Lines.mine(Lines.drawn("a", "z x", 1, 28), Lines.way("b", "x y", 1), Lines.way("c", "y z", 1), Lines.way("d", "z day", 1));
        Check.air(mine, "a round by x, y, z", 3, 3, 3, 0);
        ringed(mine, "three WAYS");
        mine.fire(0, -56);
        Check.air(mine, "back", -3, -3, -3, 0);
        ringed(mine, "three WAYS back");
        mine.fire(0, -26);
        Check.air(mine, "no AIR", 0, 0, 0, 0);
        Check.refused(mine, "no AIR, no RING", mine.sound(), 0, 0);
        mine.fire(0, -24);
        Check.air(mine, "one part of AIR", 1, 1, 1, 0);
        ringed(mine, "one part of AIR");
        mine.fall(1, true);
        Check.refused(mine, "fallen, no RING", mine.sound(), 0, 0);
        // out of day, round by x and y, and back into day by another WAY
        mine = Lines.mine(Lines.drawn("a", "day x", 1, 100), Lines.way("b", "x y", 1), Lines.way("c", "y day", 1),
                Lines.way("d", "y x", 99));
        Check.is("d goes with b", mine.air(3) <= 0, true);
        Check.refused(mine, "no RING", mine.sound(), 0, 0);
        mine.fire(3, 600);
        Check.is("d goes against b", mine.air(3) > 0 && mine.air(1) > mine.air(3), true);
        ringed(mine, "a ring beside a round by day");
    }

    private static void ringed(MineAir mine, String when) {
        for (int w = 0; w < mine.count(0); w++) {
            Check.refused(mine, when + ": gas(" + w + ")", mine.gas(w), -1, 5);
            Check.refused(mine, when + ": thick(" + w + ")", mine.thick(w), -1, 5);
        }
        Check.refused(mine, when + ": over()", mine.over(), -1, 5);
        Check.refused(mine, when + ": sound()", mine.sound(), 1, 0);
        Check.refused(mine, when + ": 1 ahead of 5", mine.gas(-1), -1, 1);
        Check.refused(mine, when + ": 1 ahead of 5", mine.thick(mine.count(0)), -1, 1);
    }

    /** A RING anywhere, though no GAS is in it and it touches nothing else. */
    private static void ringElsewhere() {
        MineAir mine = Lines.mine(Lines.drawn("a", "day x", 1, 20), Lines.way("b", "x day", 1), Lines.drawn("c", "p q", 1, 3),
                Lines.way("d", "q p", 1), Lines.face("g", "a", 1, 0));
        Check.air(mine, "two mines", 3, 3, 1, 1);
        ringed(mine, "two mines");
        mine.fire(2, -1);
        Check.air(mine, "the second is STILL", 3, 3, 0, 0);
        gases(mine, "the second is STILL", 1, 1, 0, 0);
    }

    /** "no GAS goes along it, and its FACE's gas stays there". */
    private static void stillWays() {
        MineAir mine = Lines.mine(Lines.drawn("a", "day x", 1, 20), Lines.way("b", "x day", 1), Lines.way("c", "x y", 1),
                Lines.way("d", "y x", 1), Lines.face("g", "c", 999, 0), Lines.face("h", "d", 0, 0), Lines.face("i", "a", 5, 0));
        Check.air(mine, "c and d are STILL", 3, 3, 0, 0);
        gases(mine, "c's gas stays in c, a's passes it by", 5, 5, 999, 0);
        thicks(mine, "1,000 with gas, 0 without", 1666, 1666, 1000, 0);
        mine.mark(999);
        Check.refused(mine, "1,000 is above every MARK", mine.over(), 3, 0);
        mine.fall(1, true);
        gases(mine, "all are STILL", 5, 0, 999, 0);
        thicks(mine, "all are STILL", 1000, 0, 1000, 0);
        Check.refused(mine, "two are OVER", mine.over(), 2, 0);
        mine = Lines.mine(Lines.way("a", "x y", 1), Lines.face("g", "a", 1, 0));
        thicks(mine, "the least gas above 0", 1000);
        mine = Lines.mine(Lines.way("a", "x y", 1), Lines.face("g", "a", 0, 0));
        thicks(mine, "gas 0", 0);
        mine = Lines.mine(Lines.way("a", "x y", 1));
        thicks(mine, "no FACE", 0);
        gases(mine, "no FACE", 0);
    }

    /** From day by a, in which the gas comes, and back by the others: drawn so that these have 1 or 2 parts each. */
    private static MineAir fork(int gas, int draught, int... hinders) {
        String text = Lines.drawn("a", "day x", 1, draught);
        for (int i = 0; i < hinders.length; i++) text += ";" + Lines.way("" + (char) ('b' + i), "x day", hinders[i]);
        return Check.of(text + ";" + Lines.face("g", "a", gas, 0));
    }

    /** "of like ones the lesser WAYS". */
    private static void likeRests() {
        int[][] due = {{0, 0, 0}, {1, 0, 0}, {1, 1, 0}, {1, 1, 1}, {2, 1, 1}, {2, 2, 1}};
        for (int gas = 0; gas < due.length; gas++) {
            MineAir mine = fork(gas, 24, 14, 14, 14);
            Check.air(mine, "thirds", 3, 1, 1, 1);
            gases(mine, gas + " in thirds", gas, due[gas][0], due[gas][1], due[gas][2]);
        }
        gases(fork(1, 9, 4, 4), "one for two", 1, 1, 0);
        gases(fork(999, 9, 4, 4), "999 for two", 999, 500, 499);
    }

    /** "one part more to those of greatest rests", be their numbers greater. */
    private static void greatestRests() {
        int[][] due = {{0, 0}, {0, 1}, {1, 1}, {1, 2}, {1, 3}, {2, 3}, {2, 4}};
        for (int gas = 0; gas < due.length; gas++) {
            MineAir mine = fork(gas, 14, 4, 1);
            Check.air(mine, "1 and 2 of 3", 3, 1, 2);
            gases(mine, gas + " by 1 and 2", gas, due[gas][0], due[gas][1]);
            mine = fork(gas, 14, 1, 4);
            Check.air(mine, "2 and 1 of 3", 3, 2, 1);
            gases(mine, gas + " by 2 and 1", gas, due[gas][1], due[gas][0]);
        }
    }

    /** WAYS that lead away from the KNOT told ahead of the one that leads to it. */
    private static void sharesOfTheFirst() {
        int[][] due = {{0, 0}, {1, 0}, {1, 1}, {2, 1}, {3, 1}, {3, 2}, {4, 2}};
        int[][] alike = {{0, 0}, {1, 0}, {1, 1}, {2, 1}, {2, 2}, {3, 2}, {3, 3}};
        for (int gas = 0; gas < due.length; gas++) {
            MineAir mine = Lines.mine(Lines.way("a", "x day", 1), Lines.way("b", "x day", 4), Lines.drawn("c", "day x", 1, 14), Lines.face("g", "c", gas, 0));
            Check.air(mine, "2 and 1 of 3", 2, 1, 3);
            gases(mine, gas + " by 2 and 1", due[gas][0], due[gas][1], gas);
            mine = Lines.mine(Lines.way("a", "x day", 4), Lines.way("b", "x day", 4), Lines.drawn("c", "day x", 1, 9), Lines.face("g", "c", gas, 0));
            Check.air(mine, "1 and 1 of 2", 1, 1, 2);
            gases(mine, gas + " by 1 and 1", alike[gas][0], alike[gas][1], gas);
        }
        MineAir mine = Lines.mine(Lines.way("a", "x day", 1), Lines.drawn("b", "day x", 1, 9), Lines.face("g", "b", 999, 0), Lines.face("h", "a", 998, 0));
        gases(mine, "all to the first, and its own", 1997, 999);
    }

    /** What comes by two WAYS is shared as one; each WAY's own FACE comes to it behind the KNOT. */
    private static void sharedTwice() {
        MineAir mine = Lines.mine(Lines.drawn("a", "day x", 4, 20), Lines.drawn("b", "day x", 4, 20), Lines.way("c", "x y", 1),
                Lines.way("d", "y day", 4), Lines.way("e", "y day", 4), Lines.face("g", "a", 3, 0), Lines.face("h", "b", 4, 0),
                Lines.face("i", "e", 10, 0));
        Check.is("as much in a as in b", mine.air(0), mine.air(1));
        Check.is("as much in d as in e", mine.air(3), mine.air(4));
        gases(mine, "3 and 4 are 7: 4 and 3, and 10 more", 3, 4, 7, 4, 13);
    }

    private static void mostGas() {
        String[] faces = {Lines.face("f", "a", 999, 0), Lines.face("g", "b", 999, 0), Lines.face("h", "c", 999, 0), Lines.face("i", "d", 999, 0)};
        MineAir mine = Lines.mine(Lines.drawn("a", "day x", 1, 5000), Lines.drawn("b", "x y", 1, 5000), Lines.drawn("c", "y z", 1, 5000),
                Lines.way("d", "z day", 1), faces[0], faces[1], faces[2], faces[3]);
        Check.air(mine, "60", 60, 60, 60, 60);
        gases(mine, "four FACES", 999, 1998, 2997, 3996);
        thicks(mine, "four FACES", 16650, 33300, 49950, 66600);
        mine = Lines.mine(Lines.drawn("a", "day x", 1, 5), Lines.way("b", "x y", 1), Lines.way("c", "y z", 1),
                Lines.way("d", "z day", 1), faces[0], faces[1], faces[2], faces[3]);
        Check.air(mine, "1", 1, 1, 1, 1);
        thicks(mine, "four FACES, one part of AIR", 999000, 1998000, 2997000, 3996000);
    }

    /** "1,000 times GAS by AIR, downwards". */
    private static void thickDownwards() {
        int[] airs = {1, 2, 3, 6, 7, 7, 60, 60, 60};
        int[] gas = {1, 1, 2, 1, 1, 7, 1, 3, 59};
        int[] due = {1000, 500, 666, 166, 142, 1000, 16, 50, 983};
        for (int i = 0; i < airs.length; i++) {
            MineAir mine = round(airs[i], gas[i], 0);
            Check.air(mine, "round", airs[i], airs[i]);
            thicks(mine, gas[i] + " by " + airs[i], 0, due[i]);
            mine.fire(0, -Math.min(5000, 4 * Lines.drawFor(1, airs[i])));
            if (airs[i] < 20) Check.is("THICK has no sign", mine.thick(1) > 0 && mine.air(1) < 0, true);
        }
    }

    /** "OVER: THICK above MARK (1 .. 999)". */
    private static void aboveMark() {
        int[] airs = {7, 60, 60, 60};
        int[] gas = {1, 1, 59, 0};
        int[] thick = {142, 16, 983, 0};
        for (int i = 0; i < airs.length; i++) {
            MineAir mine = round(airs[i], gas[i], 0);
            int[] marks = {1, thick[i] - 1, thick[i], thick[i] + 1, 999};
            for (int m : marks) {
                if (m < 1) continue;
                Check.granted(mine, "mark(" + m + ")", mine.mark(m));
                Check.refused(mine, thick[i] + " against " + m, mine.over(), thick[i] > m ? 1 : 0, 0);
                Check.refused(mine, thick[i] + " against " + m, mine.sound(), thick[i] > m ? 2 : 0, 0);
            }
        }
        MineAir mine = round(2, 1, 0);
        mine.mark(499);
        mine.mark(1000);
        mine.mark(0);
        Check.refused(mine, "a refused MARK leaves it", mine.over(), 1, 0);
    }

    /** "no FACE's AIR (without sign) below its need". */
    private static void belowNeed() {
        int[] airs = {0, 0, 1, 1, 1, 5, 5, 59, 60, 60};
        int[] needs = {0, 1, 0, 1, 2, 5, 6, 60, 59, 60};
        for (int i = 0; i < airs.length; i++) {
            MineAir mine = round(airs[i], 0, needs[i]);
            Check.air(mine, "round", airs[i], airs[i]);
            Check.refused(mine, airs[i] + " against need " + needs[i], mine.sound(), airs[i] < needs[i] ? 3 : 0, 0);
        }
        MineAir mine = Lines.mine(Lines.drawn("a", "day x", 1, -51), Lines.way("b", "x day", 1), Lines.face("g", "a", 0, 5));
        Check.air(mine, "back", -5, -5);
        Check.refused(mine, "5 without its sign", mine.sound(), 0, 0);
        mine.fire(0, 1);
        Check.air(mine, "one less", -4, -4);
        Check.refused(mine, "4 without its sign", mine.sound(), 3, 0);
        mine = Lines.mine(Lines.drawn("a", "day x", 1, 51), Lines.way("b", "x day", 1), Lines.way("c", "x day", 99),
                Lines.face("g", "a", 0, 5), Lines.face("h", "c", 0, 0), Lines.face("i", "b", 0, 6));
        Check.refused(mine, "the last FACE alone", mine.sound(), 3, 0);
    }

    /** "no PAIR with both DOORS open". */
    private static void openPairs() {
        MineAir mine = Lines.mine(Lines.way("a", "x y", 1), Lines.way("b", "x y", 1), Lines.way("c", "x y", 1), Lines.way("d", "x y", 1),
                Lines.door("p", "a", 1), Lines.door("q", "b", 1), Lines.door("r", "c", 1), Lines.door("s", "d", 1),
                "pair p q", "pair q r", "pair r p");
        for (int open = 0; open < 16; open++) {
            for (int d = 0; d < 4; d++) mine.door(d, (open >> d & 1) == 1);
            Check.refused(mine, "DOORS " + open, mine.sound(), Integer.bitCount(open & 7) > 1 ? 4 : 0, 0);
        }
        mine = Lines.mine(Lines.way("a", "x y", 1), Lines.way("b", "x y", 1), Lines.door("p", "a", 1), Lines.door("q", "b", 1));
        mine.door(0, true);
        mine.door(1, true);
        Check.refused(mine, "two that are no PAIR", mine.sound(), 0, 0);
    }

    /** "else the first of these: 1 a RING, 2 a WAY OVER, 3 a FACE below its need, 4 a PAIR". */
    private static void firstOfThese() {
        MineAir mine = Lines.mine(Lines.drawn("a", "day x", 1, 20), Lines.way("b", "x day", 1), Lines.way("c", "p q", 1),
                Lines.way("d", "q p", 1), Lines.door("p", "c", 1), Lines.door("q", "d", 1), "pair p q", Lines.face("g", "a", 1, 4));
        mine.door(0, true);
        mine.door(1, true);
        mine.fire(2, 100);
        Check.refused(mine, "all four", mine.sound(), 1, 0);
        mine.fire(2, 0);
        Check.refused(mine, "no RING", mine.sound(), 2, 0);
        mine.mark(333);
        Check.refused(mine, "none OVER", mine.sound(), 3, 0);
        mine.fire(0, 13);
        Check.refused(mine, "no need", mine.sound(), 4, 0);
        mine.door(1, false);
        Check.refused(mine, "no PAIR", mine.sound(), 0, 0);
        mine.fire(2, 100);
        Check.refused(mine, "a RING alone", mine.sound(), 1, 0);
    }
}
