/** Terms VI and promises 30 and 31: each number of TROUBLE, which call sets it and which leaves it; what count() tells. */
public final class TroubleEdgeTest {
    private interface Call {
        void on(MineAir mine);
    }

    private interface Maker {
        MineAir make();
    }

    private static final String ROUND = Lines.book(Lines.drawn("a", "day x", 1, 51), Lines.way("b", "x day", 1),
            Lines.door("p", "a", 1), Lines.door("q", "b", 1), "pair p q", Lines.fan("f", "a", 60, 0, 1));
    private static final Maker NONE = MineAir::new;
    private static final Maker SOUND = () -> Check.of(ROUND);
    private static final Maker NEVER = () -> Check.of(ROUND + ";" + Lines.face("g", "a", 0, 60));
    private static final Maker RINGED = () -> Lines.mine(Lines.drawn("a", "y x", 1, 51), Lines.way("b", "x y", 1));
    private static final Maker BURNING = TroubleEdgeTest::burning;
    private static final Maker FULL = TroubleEdgeTest::full;

    private static int tried = 0;

    public static void main(String[] args) {
        atFirst();
        ofTheBook();
        ofTheState();
        ofAirAndGas();
        ofTrials();
        ofFire();
        ofChanges();
        ofReadings();
        leftAsItWas();
        counts();
        Check.is("every TROUBLE ahead of a call could be brought about", tried > 400, true);
        Check.end();
    }

    private static MineAir burning() {
        MineAir mine = Check.of(ROUND);
        mine.fire(0, 1);
        mine.man(1);
        return mine;
    }

    private static MineAir full() {
        MineAir mine = burning();
        while (mine.count(6) < 20) mine.man(0);
        while (mine.count(7) < 5) mine.change(1, 0, 2);
        while (mine.count(8) < 8) mine.reading(0, -60, 60);
        return mine;
    }

    /** Whether the latest call that may be refused was by this number; some can't be in some mines. */
    private static boolean bring(MineAir mine, int trouble) {
        switch (trouble) {
            case 0 -> mine.mark(10);
            case 1 -> mine.door(-1, true);
            case 2 -> mine.mark(0);
            case 3 -> mine.reading(0, 0, 0);
            case 4 -> mine.book(0);
            case 5 -> mine.fall(0, false);
            default -> mine.setting();
        }
        return mine.trouble() == trouble;
    }

    private static void sets(String what, Maker maker, int due, Call call) {
        for (int before = 0; before <= 6; before++) {
            MineAir mine = maker.make();
            if (before == 3 && mine.count(8) < 8 || !bring(mine, before)) continue;
            tried++;
            call.on(mine);
            Check.is(what + " behind " + before, mine.trouble(), due);
        }
    }

    private static void atFirst() {
        Check.is("no call yet", new MineAir().trouble(), 0);
        MineAir mine = new MineAir();
        mine.feed(0, 0, 0, 0, 0);
        mine.count(0);
        mine.cost();
        Check.is("no call that may be refused yet", mine.trouble(), 0);
        mine.make();
        Check.is("trouble()", mine.trouble(), 5);
        Check.is("trouble() leaves itself", mine.trouble(), 5);
    }

    private static void ofTheBook() {
        for (Maker maker : new Maker[] {NONE, SOUND}) {
            sets("book(-1)", maker, 2, m -> m.book(-1));
            sets("book(1)", maker, 2, m -> m.book(1));
            sets("book(0)", maker, 4, m -> m.book(0));
            sets("a BOOK", maker, 0, m -> Check.book(m, ROUND));
            sets("a FAULT", maker, 4, m -> Check.book(m, "pair p q"));
        }
    }

    private static void ofTheState() {
        for (Maker maker : new Maker[] {SOUND, NEVER, BURNING, FULL}) {
            sets("door(0, true)", maker, 0, m -> m.door(0, true));
            sets("door(0, false)", maker, 5, m -> m.door(0, false));
            sets("door(2, true)", maker, 1, m -> m.door(2, true));
            sets("speed(0, 3)", maker, 0, m -> m.speed(0, 3));
            sets("speed(0, 1), which it has", maker, 0, m -> m.speed(0, 1));
            sets("speed(1, 4)", maker, 1, m -> m.speed(1, 4));
            sets("speed(0, 4)", maker, 2, m -> m.speed(0, 4));
            sets("fall(0, true)", maker, 0, m -> m.fall(0, true));
            sets("fall(0, false)", maker, 5, m -> m.fall(0, false));
            sets("fall(2, true)", maker, 1, m -> m.fall(2, true));
            sets("fire(1, 5000)", maker, 0, m -> m.fire(1, 5000));
            sets("fire(1, 0), which it has", maker, 0, m -> m.fire(1, 0));
            sets("fire(1, 5001)", maker, 2, m -> m.fire(1, 5001));
            sets("fire(2, 0)", maker, 1, m -> m.fire(2, 0));
            sets("mark(1)", maker, 0, m -> m.mark(1));
            sets("mark(0)", maker, 2, m -> m.mark(0));
        }
        sets("door() without a BOOK", NONE, 1, m -> m.door(0, false));
        sets("speed() without a BOOK", NONE, 1, m -> m.speed(0, 0));
        sets("fall() without a BOOK", NONE, 1, m -> m.fall(0, false));
        sets("fire() without a BOOK", NONE, 1, m -> m.fire(0, 0));
        sets("mark() without a BOOK", NONE, 0, m -> m.mark(1));
    }

    private static void ofAirAndGas() {
        for (Maker maker : new Maker[] {NONE, SOUND, NEVER, RINGED, FULL}) {
            boolean none = maker == NONE;
            int ring = none ? 1 : maker == RINGED ? 5 : 0;
            sets("turned(0)", maker, none || maker == RINGED ? 1 : 0, m -> m.turned(0));
            sets("turned(1)", maker, 1, m -> m.turned(1));
            sets("gas(0)", maker, ring, m -> m.gas(0));
            sets("gas(2)", maker, 1, m -> m.gas(2));
            sets("thick(1)", maker, ring, m -> m.thick(1));
            sets("thick(-1)", maker, 1, m -> m.thick(-1));
            sets("over()", maker, ring, m -> m.over());
            sets("sound()", maker, none ? 1 : 0, m -> m.sound());
        }
    }

    private static void ofTrials() {
        for (Maker maker : new Maker[] {NONE, SOUND, NEVER, RINGED, FULL}) {
            int book = maker == NONE ? 1 : 0;
            sets("failing(true)", maker, book, m -> m.failing(true));
            sets("failing(false)", maker, book, m -> m.failing(false));
            sets("setting()", maker, maker == NEVER || maker == RINGED ? 6 : book, m -> m.setting());
        }
    }

    private static void ofFire() {
        for (Maker maker : new Maker[] {NONE, SOUND, NEVER, BURNING, FULL}) {
            boolean none = maker == NONE;
            boolean fire = maker == BURNING || maker == FULL;
            sets("smoke(0)", maker, none ? 1 : fire ? 0 : 5, m -> m.smoke(0));
            sets("smoke(2)", maker, 1, m -> m.smoke(2));
            sets("man(0)", maker, none ? 1 : maker == FULL ? 3 : 0, m -> m.man(0));
            sets("man(2)", maker, 1, m -> m.man(2));
            sets("out(0)", maker, fire ? 0 : 1, m -> m.out(0));
            sets("out(20)", maker, 1, m -> m.out(20));
        }
        sets("out(0) without a FIRE", SOUND, 5, m -> {
            m.man(0);
            m.out(0);
        });
        sets("out(0) that can't be", BURNING, 0, m -> {
            m.fall(1, true);
            m.out(0);
        });
    }

    private static void ofChanges() {
        for (Maker maker : new Maker[] {SOUND, NEVER, BURNING}) {
            sets("change(1, 0, 3)", maker, 0, m -> m.change(1, 0, 3));
            sets("order(0) without CHANGES", maker, 1, m -> m.order(0));
            sets("make() without CHANGES", maker, 5, m -> m.make());
        }
        for (Maker maker : new Maker[] {SOUND, NEVER, BURNING, FULL}) {
            sets("change(3, 0, 0)", maker, 1, m -> m.change(3, 0, 0));
            sets("change(0, 2, 9)", maker, 1, m -> m.change(0, 2, 9));
            sets("change(0, 0, 2)", maker, 2, m -> m.change(0, 0, 2));
            sets("order(-1)", maker, 1, m -> m.order(-1));
            sets("order(5)", maker, 1, m -> m.order(5));
        }
        sets("change() of too many", FULL, 3, m -> m.change(0, 0, 0));
        sets("order(4)", FULL, 0, m -> m.order(4));
        sets("make()", FULL, 0, m -> m.make());
        sets("order(0), none is SAFE", NEVER, 0, m -> {
            m.change(0, 0, 0);
            m.order(0);
        });
        sets("make(), none is SAFE", NEVER, 6, m -> {
            m.change(0, 0, 0);
            m.make();
        });
        sets("change() without a BOOK", NONE, 1, m -> m.change(0, 0, 0));
        sets("order() without a BOOK", NONE, 1, m -> m.order(0));
        sets("make() without a BOOK", NONE, 5, m -> m.make());
    }

    private static void ofReadings() {
        for (Maker maker : new Maker[] {SOUND, NEVER, BURNING}) {
            sets("reading(0, 0, 0)", maker, 0, m -> m.reading(0, 0, 0));
            sets("fits(0)", maker, 5, m -> m.fits(0));
        }
        for (Maker maker : new Maker[] {SOUND, NEVER, BURNING, FULL}) {
            sets("reading(2, 1, 0)", maker, 1, m -> m.reading(2, 1, 0));
            sets("reading(0, 1, 0)", maker, 2, m -> m.reading(0, 1, 0));
            sets("fits(10000)", maker, 2, m -> m.fits(10000));
        }
        sets("reading() of too many", FULL, 3, m -> m.reading(0, 0, 0));
        sets("fits(9999)", FULL, 0, m -> m.fits(9999));
        sets("reading() without a BOOK", NONE, 1, m -> m.reading(0, 0, 0));
        sets("fits() without a BOOK", NONE, 1, m -> m.fits(-1));
    }

    /** "(those of which a number is told here)": all others leave it, answer what they may. */
    private static void leftAsItWas() {
        Call[] calls = {m -> m.feed(0, 0, 0, 0, 0), TroubleEdgeTest::feedTooMany, m -> m.fault(), m -> m.where(), m -> m.way(0, 0),
            m -> m.way(-1, 0), m -> m.way(0, 11), m -> m.air(0), m -> m.air(14), m -> m.cost(), m -> Check.led(m, 0, 0),
            m -> Check.led(m, 0, 9), m -> Check.led(m, -1, 0), m -> m.count(0), m -> m.count(11), m -> m.trouble()};
        for (Maker maker : new Maker[] {NONE, SOUND, NEVER, RINGED, BURNING, FULL}) {
            for (int before = 0; before <= 6; before++) {
                for (int i = 0; i < calls.length; i++) {
                    MineAir mine = maker.make();
                    if (before == 3 && mine.count(8) < 8 || !bring(mine, before)) continue;
                    calls[i].on(mine);
                    Check.is("call " + i + " leaves " + before, mine.trouble(), before);
                    Check.is("call " + i + ": where()", mine.where(), before == 4 ? 0 : -1);
                }
            }
        }
    }

    private static void feedTooMany(MineAir mine) {
        for (int i = 0; i < 31; i++) mine.feed(0, 0, 0, 0, 0);
        Check.is("THE TAPE is full", mine.feed(0, 0, 0, 0, 0), -1);
    }

    /** count(): "NONE for others; 0 for what there isn't", "9 the number of day (-2)". */
    private static void counts() {
        int[] far = {Integer.MIN_VALUE, -2, -1, 11, 12, Integer.MAX_VALUE};
        for (Maker maker : new Maker[] {NONE, SOUND, FULL}) {
            for (int what : far) Check.is("count(" + what + ")", maker.make().count(what), -1);
        }
        int[] none = {0, 0, 0, 0, 0, 0, 0, 0, 0, -2, 0};
        int[] bare = {1, 2, 0, 0, 0, 0, 0, 0, 0, -2, 0};
        int[] full = {2, 2, 2, 1, 1, 0, 20, 5, 8, 0, 0};
        MineAir plain = Lines.mine(Lines.way("a", "x y", 1));
        for (int what = 0; what <= 10; what++) {
            Check.is("no BOOK: count(" + what + ")", NONE.make().count(what), none[what]);
            Check.is("a WAY alone: count(" + what + ")", plain.count(what), bare[what]);
            Check.is("full: count(" + what + ")", FULL.make().count(what), full[what]);
        }
        MineAir mine = SOUND.make();
        for (int i = 1; i <= 30; i++) {
            mine.feed(0, 0, 0, 0, 0);
            Check.is("count(10)", mine.count(10), 20 * i);
        }
        Check.is("the last KNOT is day", Lines.mine(Lines.way("a", "x day", 1)).count(9), 1);
    }
}
