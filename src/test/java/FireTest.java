/** Promises 21 to 23 and 29: smoke, man, out, led. */
public final class FireTest {
    public static void main(String[] args) {
        noBook();
        smokeGoesOn();
        smokeStands();
        ring();
        menGo();
        justInTime();
        likeWays();
        noDay();
        rooms();
        Check.end();
    }

    private static void noBook() {
        MineAir mine = new MineAir();
        Check.refused(mine, "smoke(0)", mine.smoke(0), -1, 1);
        Check.refused(mine, "man(0)", mine.man(0), -1, 1);
        Check.refused(mine, "out(0)", mine.out(0), -1, 1);
        Check.is("led(0, 0) throws", Check.led(mine, 0, 0), -9);
        Check.is("led() leaves trouble()", mine.trouble(), 1);
    }

    private static MineAir fork(int lastWalk) {
        return Check.of("way a day x hinder 1 size 100 walk 5 draught 200;way b x y hinder 1 size 33 walk 4;"
                + "way c x y hinder 1 size 7 walk 9;way d y day hinder 1 size 50 walk " + lastWalk);
    }

    private static void smokes(MineAir mine, String when, int... due) {
        for (int w = 0; w < due.length; w++) Check.refused(mine, when + ": smoke(" + w + ")", mine.smoke(w), due[w], 0);
    }

    private static void smokeGoesOn() {
        MineAir mine = fork(3);
        Check.refused(mine, "smoke(0) without a FIRE", mine.smoke(0), -1, 5);
        Check.refused(mine, "smoke(4)", mine.smoke(4), -1, 1);
        Check.refused(mine, "smoke(-1)", mine.smoke(-1), -1, 1);
        mine.fire(1, 1);
        Check.air(mine, "a FIRE in b", 9, 5, 4, 9);
        // 33 by 5, upwards; what comes to day goes nowhere
        smokes(mine, "a FIRE in b", -2, 0, -2, 7);
        mine.fire(3, -1);
        smokes(mine, "of two FIRES the least WAY's", -2, 0, -2, 7);
        mine.fire(0, 1);
        Check.air(mine, "three FIRES", 9, 5, 4, 9);
        // 100 by 9 is 12; by c 7 by 4, by b 33 by 5: the first of them
        smokes(mine, "a FIRE in a", 0, 12, 12, 14);
        mine.fall(2, true);
        Check.air(mine, "c fallen", 8, 8, 0, 8);
        smokes(mine, "c fallen", 0, 13, -2, 18);
        mine.fire(0, -401);
        Check.air(mine, "turned about", -8, -8, 0, -8);
        smokes(mine, "turned about", 0, -2, -2, -2);
        mine.fire(0, 0);
        mine.fire(1, 0);
        mine.fire(3, 0);
        Check.refused(mine, "the FIRES are out", mine.smoke(0), -1, 5);
    }

    private static void smokeStands() {
        MineAir mine = fork(3);
        mine.fire(0, 1);
        mine.fall(0, true);
        smokes(mine, "a FIRE in a fallen WAY", 0, -2, -2, -2);
        mine.fall(0, false);
        mine.fire(0, -200);
        Check.air(mine, "no AIR at all", 0, 0, 0, 0);
        smokes(mine, "no AIR at all", 0, -2, -2, -2);
    }

    private static void ring() {
        MineAir mine = Check.of("way a p q hinder 1 size 10 walk 1 draught 30;way b q p hinder 1 size 10 walk 1;"
                + "way c q day hinder 1 size 1 walk 1");
        mine.fire(1, 2);
        Check.air(mine, "round and round", 3, 3, 0);
        smokes(mine, "round and round", 4, 0, -2);
    }

    private static void leds(MineAir mine, int man, String when, int... due) {
        for (int i = 0; i < due.length; i++) Check.is(when + ": led(" + man + ", " + i + ")", Check.led(mine, man, i), due[i]);
        Check.is(when + ": led() beyond", Check.led(mine, man, due.length), -9);
        Check.is(when + ": led(-1)", Check.led(mine, man, -1), -9);
    }

    private static void menGo() {
        MineAir mine = fork(3);
        Check.refused(mine, "man(1)", mine.man(1), 0, 0);
        Check.refused(mine, "man(2)", mine.man(2), 1, 0);
        Check.refused(mine, "man(0)", mine.man(0), 2, 0);
        Check.refused(mine, "man(3)", mine.man(3), -1, 1);
        Check.refused(mine, "man(-1)", mine.man(-1), -1, 1);
        Check.refused(mine, "out(0) without a FIRE", mine.out(0), -1, 5);
        Check.is("led(0, 0) without a FIRE throws", Check.led(mine, 0, 0), -9);
        Check.refused(mine, "out(3)", mine.out(3), -1, 1);
        Check.refused(mine, "out(-1)", mine.out(-1), -1, 1);
        Check.is("led(3, 0) throws", Check.led(mine, 3, 0), -9);
        mine.fire(0, 1);
        Check.refused(mine, "from x by y", mine.out(0), 7, 0);
        leds(mine, 0, "from x by y", 1, 2, 0);
        Check.refused(mine, "from y", mine.out(1), 3, 0);
        leds(mine, 1, "from y", 2, 0);
        Check.refused(mine, "from day", mine.out(2), 0, 0);
        leds(mine, 2, "from day", 0);
        mine.fall(1, true);
        Check.refused(mine, "from x by c", mine.out(0), 12, 0);
        leds(mine, 0, "from x by c", 1, 2, 0);
        mine.fall(3, true);
        Check.refused(mine, "d is fallen, a in SMOKE", mine.out(0), -2, 0);
        leds(mine, 0, "no way out");
        mine.fire(0, 0);
        mine.fire(2, 1);
        Check.refused(mine, "by a now", mine.out(0), 5, 0);
        leds(mine, 0, "by a now", 1, 0);
        Check.refused(mine, "cut off", mine.out(1), -2, 0);
        Check.refused(mine, "at day whatever burns", mine.out(2), 0, 0);
    }

    /** A WAY is good only if SMOKE comes later than they are through. */
    private static void justInTime() {
        int[] walks = {13, 14};
        int[] due = {13, -2};
        for (int i = 0; i < 2; i++) {
            MineAir mine = fork(walks[i]);
            mine.man(2);
            mine.fire(0, 1);
            Check.refused(mine, "SMOKE in d", mine.smoke(3), 14, 0);
            Check.refused(mine, "walk " + walks[i], mine.out(0), due[i], 0);
        }
        MineAir mine = fork(10);
        mine.man(1);
        mine.fire(0, 1);
        // by b they are at y at 4 and would be through d at 14
        Check.refused(mine, "too late in the second WAY", mine.out(0), -2, 0);
        mine = fork(9);
        mine.man(1);
        mine.fire(0, 1);
        Check.refused(mine, "early enough", mine.out(0), 13, 0);
        // through d at 14 would be as early as by z, but SMOKE is there at 14
        mine = Check.of("way a day x hinder 1 size 100 walk 5 draught 200;way b x y hinder 1 size 33 walk 4;"
                + "way c x y hinder 1 size 7 walk 9;way d y day hinder 1 size 50 walk 14;"
                + "way e z day hinder 99 size 1 walk 13;way f y z hinder 99 size 1 walk 1");
        mine.man(2);
        mine.fire(0, 1);
        smokes(mine, "e and f are STILL", 0, 12, 12, 14, -2, -2);
        Check.refused(mine, "by z", mine.out(0), 14, 0);
        leds(mine, 0, "by z", 2, 3, 0);
    }

    private static void likeWays() {
        MineAir mine = Check.of("way a y day hinder 1 size 1 walk 3;way b x s hinder 1 size 1 walk 2;"
                + "way c s y hinder 1 size 1 walk 3;way d x day hinder 1 size 1 walk 4;way e t s hinder 1 size 1 walk 1;"
                + "way f p q hinder 1 size 1 walk 1;way g y s hinder 1 size 1 walk 3");
        mine.fire(5, 9);
        mine.man(3);
        mine.man(4);
        Check.refused(mine, "from s", mine.out(0), 6, 0);
        leds(mine, 0, "a ahead of d", 3, 0, 1);
        Check.refused(mine, "from t", mine.out(1), 7, 0);
        leds(mine, 1, "from t", 4, 3, 0, 1);
        mine.fall(0, true);
        leds(mine, 1, "a fallen", 4, 3, 2, 1);
        mine.fall(0, false);
        mine.fall(2, true);
        leds(mine, 1, "by g", 4, 3, 0, 1);
        mine.fall(4, true);
        Check.refused(mine, "t is cut off", mine.out(1), -2, 0);
        leds(mine, 1, "t is cut off");
    }

    private static void noDay() {
        MineAir mine = Check.of("way a x y hinder 1 size 1 walk 3");
        mine.man(0);
        mine.fire(0, 1);
        Check.refused(mine, "no day", mine.out(0), -2, 0);
        leds(mine, 0, "no day");
        mine.fire(0, 0);
        Check.refused(mine, "no day, no FIRE", mine.out(0), -1, 5);
    }

    private static void rooms() {
        MineAir mine = Check.of("way a x y hinder 1 size 1 walk 3");
        for (int i = 0; i < 20; i++) Check.refused(mine, "man " + i, mine.man(i % 2), i, 0);
        Check.refused(mine, "a MAN more", mine.man(0), -1, 3);
        Check.refused(mine, "1 ahead of 3", mine.man(2), -1, 1);
        Check.is("count(6)", mine.count(6), 20);
    }
}
