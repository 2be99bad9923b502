/** Promises 30 and 31: count, trouble. */
public final class CountTest {
    public static void main(String[] args) {
        counts();
        troubles();
        Check.end();
    }

    private static void counts() {
        MineAir mine = Check.of("way a x y hinder1size1walk1;way b y day hinder1size1walk1;way c x day hinder1size1walk1;"
                + "door p in a by 1;door q in b by 1;door r in c by 1;pair p q;pair q r;fan f in a push 1 fall 0 cost 1;"
                + "face g in a gas 1 need 1;face h in b gas 1 need 1;face i in c gas 1 need 1");
        mine.feed(1, 2, 3, 4, 5);
        mine.feed(1, 2, 3, 4, 5);
        mine.man(0);
        for (int i = 0; i < 4; i++) mine.change(2, 0, 0);
        for (int i = 0; i < 5; i++) mine.reading(0, 0, 0);
        int[] due = {3, 3, 3, 2, 1, 3, 1, 4, 5, 2, 40};
        for (int what = 0; what <= 10; what++) Check.is("count(" + what + ")", mine.count(what), due[what]);
        Check.is("count(11)", mine.count(11), -1);
        Check.is("count(-1)", mine.count(-1), -1);
        Check.is("count() leaves trouble()", mine.trouble(), 0);
        mine = Check.of("way day x y hinder1size1walk1");
        Check.is("no day: a WAY's NAME is no KNOT", mine.count(9), -2);
    }

    /** Calls without a number leave it; those with one set it, be it to 0. */
    private static void troubles() {
        MineAir mine = Check.of("way a x y hinder1size1walk1;fan f in a push 1 fall 0 cost 1");
        mine.mark(0);
        mine.feed(1, 2, 3, 4, 5);
        mine.fault();
        mine.where();
        mine.way(9, 9);
        mine.air(9);
        mine.cost();
        mine.count(99);
        Check.led(mine, 9, 9);
        mine.trouble();
        Check.is("trouble() stays", mine.trouble(), 2);
        mine.mark(1);
        Check.is("mark(1)", mine.trouble(), 0);
        String[] calls = {"book", "door", "speed", "fall", "fire", "turned", "gas", "thick", "over", "sound", "failing",
            "setting", "smoke", "man", "out", "change", "order", "make", "reading", "fits"};
        int[] due = {2, 1, 0, 5, 0, 0, 0, 0, 0, 0, 0, 0, 0, 0, 0, 0, 0, 0, 0, 0};
        for (int i = 0; i < calls.length; i++) {
            mine.mark(0);
            call(mine, i);
            Check.is(calls[i], mine.trouble(), due[i]);
        }
    }

    private static void call(MineAir mine, int i) {
        switch (i) {
            case 0 -> mine.book(999);
            case 1 -> mine.door(0, true);
            case 2 -> mine.speed(0, 2);
            case 3 -> mine.fall(0, false);
            case 4 -> mine.fire(0, 5);
            case 5 -> mine.turned(0);
            case 6 -> mine.gas(0);
            case 7 -> mine.thick(0);
            case 8 -> mine.over();
            case 9 -> mine.sound();
            case 10 -> mine.failing(true);
            case 11 -> mine.setting();
            case 12 -> mine.smoke(0);
            case 13 -> mine.man(0);
            case 14 -> mine.out(0);
            case 15 -> mine.change(2, 0, 0);
            case 16 -> mine.order(0);
            case 17 -> mine.make();
            case 18 -> mine.reading(0, 0, 0);
            default -> mine.fits(0);
        }
    }
}
