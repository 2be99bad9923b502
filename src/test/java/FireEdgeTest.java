/** Terms IV and promises 21 to 23 and 29 at their edges: which FIRE, minutes upwards, day, MEN just ahead of SMOKE. */
public final class FireEdgeTest {
    public static void main(String[] args) {
        noBook();
        numbers();
        leastOfSeveral();
        minutesUpwards();
        notFromDay();
        firstOfSeveral();
        longestSmoke();
        stillAndFallen();
        backward();
        twentyMen();
        aheadOfSmoke();
        aheadInTheSecond();
        eitherWay();
        fallenOnes();
        atDayAndWithout();
        longestWayOut();
        leastNumberBack();
        smokeShutsTheLeast();
        ledBeyond();
        Check.end();
    }

    private static void smokes(MineAir mine, String when, int... due) {
        for (int w = 0; w < due.length; w++) Check.refused(mine, when + ": smoke(" + w + ")", mine.smoke(w), due[w], 0);
    }

    private static void leds(MineAir mine, String when, int man, int... due) {
        for (int i = 0; i < due.length; i++) Check.is(when + ": led(" + man + ", " + i + ")", Check.led(mine, man, i), due[i]);
        for (int i : new int[] {Integer.MIN_VALUE, -1, due.length, due.length + 1, 11, Integer.MAX_VALUE}) {
            Check.is(when + ": led(" + man + ", " + i + ") throws", Check.led(mine, man, i), -9);
        }
    }

    private static void noBook() {
        MineAir mine = new MineAir();
        for (int i : new int[] {Integer.MIN_VALUE, -1, 0, 1, Integer.MAX_VALUE}) {
            Check.refused(mine, "smoke(" + i + ")", mine.smoke(i), -1, 1);
            Check.refused(mine, "man(" + i + ")", mine.man(i), -1, 1);
            Check.refused(mine, "out(" + i + ")", mine.out(i), -1, 1);
            leds(mine, "no BOOK", i);
        }
    }

    /** A round by x and day with AIR 5: a comes from day, b leads there. */
    private static MineAir round(int sizeOfA, int walkOfB) {
        return Lines.mine(Lines.way("a", "day x", 1, sizeOfA, 7) + "draught51", Lines.way("b", "x day", 1, 1, walkOfB));
    }

    private static void numbers() {
        MineAir mine = round(1, 1);
        for (int i : new int[] {Integer.MIN_VALUE, -1, 2, Integer.MAX_VALUE}) {
            Check.refused(mine, "1 ahead of 5: smoke(" + i + ")", mine.smoke(i), -1, 1);
            Check.refused(mine, "man(" + i + ")", mine.man(i), -1, 1);
        }
        Check.refused(mine, "no FIRE", mine.smoke(0), -1, 5);
        Check.refused(mine, "no FIRE", mine.smoke(1), -1, 5);
        Check.refused(mine, "no MEN", mine.out(0), -1, 1);
        Check.refused(mine, "the last KNOT", mine.man(1), 0, 0);
        Check.refused(mine, "the first KNOT", mine.man(0), 1, 0);
        for (int i : new int[] {Integer.MIN_VALUE, -1, 2, Integer.MAX_VALUE}) {
            Check.refused(mine, "1 ahead of 5: out(" + i + ")", mine.out(i), -1, 1);
        }
        Check.refused(mine, "no FIRE", mine.out(0), -1, 5);
        Check.refused(mine, "no FIRE, at day", mine.out(1), -1, 5);
        leds(mine, "no FIRE", 0);
        mine.fire(0, 1);
        Check.refused(mine, "the last WAY", mine.smoke(1), 1, 0);
        Check.refused(mine, "beyond", mine.smoke(2), -1, 1);
        Check.refused(mine, "the last MAN", mine.out(1), 0, 0);
        Check.refused(mine, "beyond", mine.out(2), -1, 1);
        leds(mine, "no such MAN", 2);
        leds(mine, "no such MAN", -1);
        mine.fire(0, 0);
        Check.refused(mine, "PUSH 0 is no FIRE", mine.smoke(0), -1, 5);
        Check.refused(mine, "PUSH 0 is no FIRE", mine.out(0), -1, 5);
    }

    /** "(one with PUSH not 0; of several the least)". */
    private static void leastOfSeveral() {
        MineAir mine = Lines.mine(Lines.drawn("a", "day x", 1, 100), Lines.way("b", "x y", 1), Lines.way("c", "y z", 1), Lines.way("d", "z day", 1));
        mine.fire(2, 1);
        smokes(mine, "c burns", -2, -2, 0, 1);
        mine.fire(3, -5000);
        smokes(mine, "c and d burn, the AIR goes back", 2, 1, 0, -2);
        mine.fire(3, 1);
        mine.fire(1, -1);
        smokes(mine, "b, c and d burn", -2, 0, 1, 2);
        mine.fire(0, 5000);
        smokes(mine, "all burn", 0, 1, 2, 3);
        mine.fire(0, 0);
        mine.fire(1, 0);
        smokes(mine, "c and d burn again", -2, -2, 0, 1);
        mine.fire(2, 0);
        smokes(mine, "d burns", -2, -2, -2, 0);
    }

    /** "as many minutes later as its size by its AIR (upwards)". */
    private static void minutesUpwards() {
        int[] sizes = {1, 4, 5, 6, 9, 10, 11, 995, 996, 999};
        for (int size : sizes) {
            MineAir mine = round(size, 1);
            mine.fire(0, -1);
            Check.air(mine, "50 is too little for 5", 4, 4);
            smokes(mine, size + " by 4", 0, (size + 3) / 4);
            mine.fire(0, 1);
            Check.air(mine, "52", 5, 5);
            smokes(mine, size + " by 5", 0, (size + 4) / 5);
        }
        int[] due = {1, 1, 2, 17};
        int[] bySixty = {1, 60, 61, 999};
        for (int i = 0; i < 4; i++) {
            MineAir mine = Lines.mine(Lines.way("a", "day x", 1, bySixty[i], 1) + "draught5000", Lines.drawn("b", "x day", 1, 5000));
            mine.fire(0, 1);
            smokes(mine, bySixty[i] + " by 60", 0, due[i]);
            mine.fire(0, -5000);
            mine.fire(1, -4997);
            Check.air(mine, "3", 1, 1);
            smokes(mine, bySixty[i] + " by 1", 0, bySixty[i]);
        }
    }

    /** "(not from day)". */
    private static void notFromDay() {
        MineAir mine = Lines.mine(Lines.drawn("a", "x day", 1, 51), Lines.way("b", "day x", 1), Lines.way("c", "day y", 1), Lines.drawn("d", "y day", 1, 51));
        mine.fire(0, 1);
        Check.air(mine, "two rounds", 5, 5, 5, 5);
        smokes(mine, "into day, and no farther", 0, -2, -2, -2);
        mine.fire(1, 1);
        mine.fire(0, 0);
        smokes(mine, "out of day", 1, 0, -2, -2);
        // the same KNOTS, none of them day
        mine = Lines.mine(Lines.drawn("a", "x dai", 1, 51), Lines.way("b", "dai x", 1), Lines.way("c", "dai y", 1), Lines.drawn("d", "y dai", 1, 51));
        mine.fire(0, 1);
        smokes(mine, "on from a KNOT that isn't day", 0, 1, 1, 2);
    }

    /** "of several the first". */
    private static void firstOfSeveral() {
        MineAir mine = Lines.mine(Lines.drawn("a", "day x", 1, 200), Lines.way("b", "x y", 1, 40, 1), Lines.way("c", "x y", 1, 7, 1),
                Lines.way("d", "y day", 1));
        mine.fire(0, 1);
        Check.is("b and c have AIR", mine.air(1) > 0 && mine.air(2) > 0, true);
        smokes(mine, "by c first", 0, 1, 1, 1 + (7 + mine.air(2) - 1) / mine.air(2));
        mine.fall(2, true);
        smokes(mine, "by b alone", 0, 1, -2, 1 + (40 + mine.air(1) - 1) / mine.air(1));
        // round and round: the FIRE's own WAY has it at 0 still
        mine = Lines.mine(Lines.drawn("a", "x y", 1, 20), Lines.way("b", "y z", 1), Lines.way("c", "z x", 1));
        mine.fire(1, 1);
        smokes(mine, "a ring", 2, 0, 1);
    }

    private static String knot(int i) {
        return i == 0 ? "day" : "k" + (char) ('a' + i);
    }

    /** Ten WAYS one behind the other, by all ten KNOTS. */
    private static MineAir chain(int size, int walk, int draught) {
        StringBuilder text = new StringBuilder();
        for (int i = 0; i < 10; i++) {
            text.append(i == 0 ? "" : ";").append(Lines.way("" + (char) ('a' + i), knot(i) + " " + knot((i + 1) % 10), 1, size, walk));
            if (i == 0) text.append("draught").append(draught);
        }
        return Check.of(text.toString());
    }

    private static void longestSmoke() {
        MineAir mine = chain(999, 1, 10);
        mine.fire(0, 1);
        for (int w = 0; w < 10; w++) {
            Check.is("one part", mine.air(w), 1);
            Check.refused(mine, "smoke(" + w + ")", mine.smoke(w), 999 * w, 0);
        }
        mine = chain(999, 1, -11);
        mine.fire(9, -1);
        for (int w = 0; w < 10; w++) {
            Check.is("one part back", mine.air(w), -1);
            Check.refused(mine, "smoke(" + w + ")", mine.smoke(w), 999 * (9 - w), 0);
        }
    }

    /** SMOKE is in the FIRE's WAY at minute 0; only "a WAY with AIR gives it" on, to WAYS that lead on. */
    private static void stillAndFallen() {
        MineAir mine = Lines.mine(Lines.drawn("a", "day x", 1, 51), Lines.way("b", "x day", 1), Lines.way("c", "x y", 1));
        mine.fire(2, 5000);
        smokes(mine, "a FIRE in a STILL WAY", -2, -2, 0);
        mine.fire(0, 1);
        smokes(mine, "a STILL WAY beside", 0, 1, -2);
        mine.fall(0, true);
        smokes(mine, "a FIRE in a fallen WAY", 0, -2, -2);
        mine.fall(0, false);
        mine.fall(1, true);
        smokes(mine, "no AIR goes on", 0, -2, -2);
    }

    private static void backward() {
        MineAir mine = Lines.mine(Lines.drawn("a", "x day", 1, -40), Lines.way("b", "y x", 1, 10, 1), Lines.way("c", "day y", 1, 10, 1));
        mine.fire(0, -1);
        Check.air(mine, "back", -3, -3, -3);
        smokes(mine, "to the first KNOTS", 0, 1, 5);
        mine.fire(0, 80);
        mine.fire(2, 1);
        Check.air(mine, "forth", 3, 3, 3);
        mine.fire(0, 0);
        mine.fire(2, 0);
        mine.fire(1, 81);
        Check.air(mine, "forth", 3, 3, 3);
        smokes(mine, "to the second KNOTS", 4, 0, -2);
    }

    /** "up to 20". */
    private static void twentyMen() {
        MineAir mine = round(1, 3);
        mine.fire(0, 1);
        for (int i = 0; i < 20; i++) {
            Check.refused(mine, "MAN " + i, mine.man(i % 2), i, 0);
            Check.is("so many", mine.count(6), i + 1);
        }
        Check.refused(mine, "one more", mine.man(0), -1, 3);
        Check.refused(mine, "1 ahead of 3", mine.man(2), -1, 1);
        Check.refused(mine, "1 ahead of 3", mine.man(-1), -1, 1);
        Check.is("20 still", mine.count(6), 20);
        Check.refused(mine, "the last, at x", mine.out(19), -2, 0);
        Check.refused(mine, "the last but one, at day", mine.out(18), 0, 0);
        Check.refused(mine, "none such", mine.out(20), -1, 1);
        leds(mine, "the last but one", 18, 0);
        leds(mine, "none such", 20);
        Check.book(mine, Lines.way("a", "x y", 1));
        Check.refused(mine, "the first of a new BOOK", mine.man(0), 0, 0);
    }

    /** "only if it has no SMOKE until more than the minute at which they are through". */
    private static void aheadOfSmoke() {
        for (int walk = 1; walk <= 99; walk++) {
            MineAir mine = round(250, walk);
            mine.man(1);
            mine.fire(0, 1);
            smokes(mine, "250 by 5", 0, 50);
            Check.refused(mine, "through at " + walk, mine.out(0), walk < 50 ? walk : -2, 0);
            if (walk < 50) leds(mine, "through at " + walk, 0, 1, 0);
            else leds(mine, "through at " + walk, 0);
        }
        MineAir mine = round(5, 1);
        mine.man(1);
        mine.fire(0, 1);
        Check.refused(mine, "SMOKE at 1, through at 1", mine.out(0), -2, 0);
        mine = round(6, 1);
        mine.man(1);
        mine.fire(0, 1);
        Check.refused(mine, "SMOKE at 2, through at 1", mine.out(0), 1, 0);
        mine.fire(0, 0);
        mine.fire(1, 1);
        Check.refused(mine, "SMOKE at 0 in b, none in a", mine.out(0), 7, 0);
    }

    /** They are through the second WAY at the minutes of both. */
    private static void aheadInTheSecond() {
        for (int walk = 28; walk <= 32; walk++) {
            MineAir mine = Lines.mine(Lines.way("a", "day x", 1, 250, 1) + "draught76", Lines.way("b", "x y", 1, 5, 20), Lines.way("c", "y day", 1, 1, walk));
            mine.man(1);
            mine.fire(0, 1);
            Check.air(mine, "round", 5, 5, 5);
            smokes(mine, "round", 0, 50, 51);
            Check.refused(mine, "20 and " + walk, mine.out(0), 20 + walk < 51 ? 20 + walk : -2, 0);
        }
    }

    private static void eitherWay() {
        for (String[] knots : new String[][] {{"x y", "y day"}, {"y x", "y day"}, {"x y", "day y"}, {"y x", "day y"}}) {
            MineAir mine = Lines.mine(Lines.way("s", "p x", 1), Lines.way("a", knots[0], 1, 1, 5), Lines.way("b", knots[1], 1, 1, 6));
            mine.fire(0, 1);
            mine.man(1);
            Check.refused(mine, knots[0] + ", " + knots[1], mine.out(0), 11, 0);
            int y = mine.way(1, 0) == 1 ? mine.way(1, 1) : mine.way(1, 0);
            leds(mine, knots[0] + ", " + knots[1], 0, 1, y, mine.count(9));
        }
    }

    private static void fallenOnes() {
        MineAir mine = Lines.mine(Lines.way("s", "p x", 1), Lines.way("a", "x day", 1, 1, 5), Lines.way("b", "x y", 1, 1, 6), Lines.way("c", "y day", 1, 1, 6));
        mine.fire(0, 1);
        mine.man(1);
        Check.refused(mine, "by a", mine.out(0), 5, 0);
        mine.fall(1, true);
        Check.refused(mine, "a is fallen", mine.out(0), 12, 0);
        leds(mine, "a is fallen", 0, 1, 3, 2);
        mine.fall(3, true);
        Check.refused(mine, "c, too", mine.out(0), -2, 0);
        leds(mine, "c, too", 0);
        mine.fall(1, false);
        Check.refused(mine, "a is free", mine.out(0), 5, 0);
        leds(mine, "a is free", 0, 1, 2);
    }

    /** "-2 if they can't (or there is no day)". */
    private static void atDayAndWithout() {
        MineAir mine = Lines.mine(Lines.way("a", "day x", 1), Lines.way("b", "y z", 1));
        mine.man(0);
        mine.man(1);
        mine.man(2);
        mine.fire(0, 1);
        Check.refused(mine, "at day, though its only WAY burns", mine.out(0), 0, 0);
        leds(mine, "at day", 0, 0);
        Check.refused(mine, "by the WAY that burns", mine.out(1), -2, 0);
        leds(mine, "by the WAY that burns", 1);
        Check.refused(mine, "no WAY leads there", mine.out(2), -2, 0);
        leds(mine, "no WAY leads there", 2);
        mine = Lines.mine(Lines.way("a", "x y", 1), Lines.way("day", "y z", 1));
        mine.man(0);
        Check.refused(mine, "no day, no FIRE", mine.out(0), -1, 5);
        mine.fire(1, 1);
        Check.refused(mine, "no day", mine.out(0), -2, 0);
        leds(mine, "no day", 0);
    }

    private static void longestWayOut() {
        MineAir mine = chain(1, 99, 0);
        mine.fall(9, true);
        mine.man(9);
        mine.fire(9, 1);
        Check.refused(mine, "nine WAYS of 99", mine.out(0), 891, 0);
        leds(mine, "nine WAYS", 0, 9, 8, 7, 6, 5, 4, 3, 2, 1, 0);
        mine.fall(9, false);
        Check.refused(mine, "the tenth burns", mine.out(0), 891, 0);
        mine.fire(9, 0);
        mine.fire(0, 1);
        Check.refused(mine, "by the tenth", mine.out(0), 99, 0);
        leds(mine, "by the tenth", 0, 9, 0);
    }

    /** "always the WAY of the least number by which one can be there at its minute". */
    private static void leastNumberBack() {
        String burning = Lines.way("s", "p q", 1);
        // from r, KNOT 2, by x or by y, all alike; whichever WAY into day comes first in the BOOK
        MineAir mine = Lines.mine(burning, Lines.way("a", "r x", 1, 1, 4), Lines.way("b", "r y", 1, 1, 4), Lines.way("c", "y day", 1, 1, 4),
                Lines.way("d", "x day", 1, 1, 4));
        mine.fire(0, 1);
        mine.man(2);
        Check.refused(mine, "by x or y", mine.out(0), 8, 0);
        leds(mine, "c ahead of d", 0, 2, 4, 5);
        mine = Lines.mine(burning, Lines.way("a", "r x", 1, 1, 4), Lines.way("b", "r y", 1, 1, 4), Lines.way("d", "x day", 1, 1, 4),
                Lines.way("c", "y day", 1, 1, 4));
        mine.fire(0, 1);
        mine.man(2);
        leds(mine, "d ahead of c", 0, 2, 3, 5);
        // a lesser WAY by which one is there a minute too late
        mine = Lines.mine(burning, Lines.way("a", "y day", 1, 1, 5), Lines.way("b", "x day", 1, 1, 4), Lines.way("c", "r x", 1, 1, 4), Lines.way("d", "r y", 1, 1, 4));
        mine.fire(0, 1);
        mine.man(5);
        Check.refused(mine, "b is the faster", mine.out(0), 8, 0);
        leds(mine, "b is the faster", 0, 5, 4, 3);
        // unlike parts, like sums: 1 and 7, 7 and 1
        mine = Lines.mine(burning, Lines.way("a", "r x", 1, 1, 1), Lines.way("b", "x day", 1, 1, 7), Lines.way("c", "r y", 1, 1, 7), Lines.way("d", "y day", 1, 1, 1));
        mine.fire(0, 1);
        mine.man(2);
        Check.refused(mine, "1 and 7", mine.out(0), 8, 0);
        leds(mine, "b ahead of d", 0, 2, 3, 4);
        // the second choice: u by v or by w
        mine = Lines.mine(burning, Lines.way("a", "r v", 1, 1, 2), Lines.way("b", "r w", 1, 1, 2), Lines.way("c", "w u", 1, 1, 2), Lines.way("d", "u v", 1, 1, 2),
                Lines.way("e", "u day", 1, 1, 2));
        mine.fire(0, 1);
        mine.man(2);
        Check.refused(mine, "three WAYS", mine.out(0), 6, 0);
        leds(mine, "c ahead of d", 0, 2, 4, 5, 6);
        mine.fall(3, true);
        leds(mine, "c is fallen", 0, 2, 3, 5, 6);
    }

    /** A WAY of a lesser number, as fast, in which SMOKE is at the very minute. */
    private static void smokeShutsTheLeast() {
        for (int size = 46; size <= 55; size++) {
            MineAir mine = Lines.mine(Lines.way("a", "day x", 1, size, 1) + "draught51", Lines.way("b", "x day", 1, 1, 10),
                    Lines.way("c", "x y", 99, 1, 4), Lines.way("d", "y day", 99, 1, 6));
            mine.fire(0, 1);
            mine.man(1);
            Check.air(mine, "round by b", 5, 5, 0, 0);
            Check.refused(mine, "10 by b, or 4 and 6", mine.out(0), 10, 0);
            if (size > 50) leds(mine, "SMOKE in b at 11", 0, 1, 0);
            else leds(mine, "SMOKE in b at 10", 0, 1, 2, 0);
        }
    }

    /** "NoSuchElementException if there is none such", which changes nothing. */
    private static void ledBeyond() {
        MineAir mine = round(250, 3);
        mine.man(1);
        mine.fire(0, 1);
        mine.mark(0);
        String before = Look.at(mine);
        mine.mark(0);
        leds(mine, "round", 0, 1, 0);
        for (int man : new int[] {Integer.MIN_VALUE, -1, 1, 20, Integer.MAX_VALUE}) leds(mine, "MAN " + man, man);
        Check.is("no number is told of it", mine.trouble(), 2);
        Look.same("nothing is changed", mine, before);
    }
}
