/** Promises 7 to 11: door, speed, fall, fire, mark. */
public final class StateTest {
    private static final String RING = "way a day x hinder 1 size 1 walk 1; way b x day hinder 1 size 1 walk 1;"
            + "fan f in a push 60 fall 0 cost 1; door p in b by 10; face g in b gas 1 need 0";

    public static void main(String[] args) {
        noBook();
        doors();
        speeds();
        falls();
        fires();
        marks();
        Check.end();
    }

    private static void noBook() {
        MineAir mine = new MineAir();
        Check.denied(mine, "door without a BOOK", mine.door(0, true), 1);
        Check.granted(mine, "mark without a BOOK", mine.mark(700));
        Check.denied(mine, "speed without a BOOK", mine.speed(0, 9), 1);
        Check.denied(mine, "fall without a BOOK", mine.fall(0, true), 1);
        Check.denied(mine, "fire without a BOOK", mine.fire(0, 9999), 1);
        Check.book(mine, RING);
        Check.is("MARK is 10 with the BOOK", mine.over(), 1);
    }

    private static void doors() {
        MineAir mine = Check.of(RING);
        Check.air(mine, "shut", 2, 2);
        Check.denied(mine, "shut a shut one", mine.door(0, false), 5);
        Check.granted(mine, "open", mine.door(0, true));
        Check.air(mine, "open", 5, 5);
        Check.denied(mine, "open an open one", mine.door(0, true), 5);
        Check.denied(mine, "door(1)", mine.door(1, true), 1);
        Check.denied(mine, "door(-1)", mine.door(-1, true), 1);
        Check.granted(mine, "shut", mine.door(0, false));
        Check.air(mine, "shut again", 2, 2);
    }

    private static void speeds() {
        MineAir mine = Check.of(RING);
        int[] due = {-3, -3, -2, 0, 2, 3, 3};
        for (int s = -3; s <= 3; s++) {
            Check.granted(mine, "speed(0, " + s + ")", mine.speed(0, s));
            Check.air(mine, "SPEED " + s, due[s + 3], due[s + 3]);
        }
        Check.granted(mine, "the same SPEED", mine.speed(0, 3));
        Check.denied(mine, "speed(0, 4)", mine.speed(0, 4), 2);
        Check.denied(mine, "speed(0, -4)", mine.speed(0, -4), 2);
        Check.denied(mine, "speed(1, 4)", mine.speed(1, 4), 1);
        Check.denied(mine, "speed(-1, 0)", mine.speed(-1, 0), 1);
        Check.air(mine, "refused SPEEDS leave it", 3, 3);
    }

    private static void falls() {
        MineAir mine = Check.of(RING);
        Check.denied(mine, "free a free one", mine.fall(0, false), 5);
        Check.granted(mine, "fall", mine.fall(0, true));
        Check.air(mine, "fallen", 0, 0);
        Check.denied(mine, "fall again", mine.fall(0, true), 5);
        Check.denied(mine, "fall(2)", mine.fall(2, true), 1);
        Check.denied(mine, "fall(-1)", mine.fall(-1, false), 1);
        Check.granted(mine, "free", mine.fall(0, false));
        Check.air(mine, "free", 2, 2);
    }

    private static void fires() {
        MineAir mine = Check.of(RING);
        Check.granted(mine, "fire(1, 5000)", mine.fire(1, 5000));
        Check.is("FIRE", mine.way(1, 10), 5000);
        Check.air(mine, "a FIRE that draws", 20, 20);
        Check.granted(mine, "fire(1, -5000)", mine.fire(1, -5000));
        Check.air(mine, "a FIRE that drives back", -20, -20);
        Check.denied(mine, "fire(1, 5001)", mine.fire(1, 5001), 2);
        Check.denied(mine, "fire(1, -5001)", mine.fire(1, -5001), 2);
        Check.denied(mine, "fire(2, 5001)", mine.fire(2, 5001), 1);
        Check.denied(mine, "fire(-1, 0)", mine.fire(-1, 0), 1);
        Check.is("FIRE as it was", mine.way(1, 10), -5000);
        Check.granted(mine, "fire(0, 10)", mine.fire(0, 10));
        Check.is("one FIRE more", mine.way(1, 10), -5000);
        Check.granted(mine, "none", mine.fire(1, 0));
        Check.granted(mine, "none again", mine.fire(1, 0));
        Check.is("no FIRE", mine.way(1, 10), 0);
        Check.air(mine, "the other FIRE", 2, 2);
    }

    private static void marks() {
        MineAir mine = Check.of(RING);
        Check.is("THICK", mine.thick(1), 500);
        Check.denied(mine, "mark(0)", mine.mark(0), 2);
        Check.denied(mine, "mark(1000)", mine.mark(1000), 2);
        Check.denied(mine, "mark(-5)", mine.mark(-5), 2);
        Check.granted(mine, "mark(1)", mine.mark(1));
        Check.is("OVER 1", mine.over(), 1);
        Check.granted(mine, "mark(499)", mine.mark(499));
        Check.is("OVER 499", mine.over(), 1);
        Check.granted(mine, "mark(500)", mine.mark(500));
        Check.is("not OVER 500", mine.over(), 0);
        Check.granted(mine, "mark(999)", mine.mark(999));
        Check.is("not OVER 999", mine.over(), 0);
        mine.speed(0, 0);
        Check.is("a STILL one is OVER 999", mine.over(), 1);
    }
}
