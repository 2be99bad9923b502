/** Promises 1 to 6: a new object, feed, book, fault, where, way. */
public final class BookTest {
    private static final String W = "way a day x hinder1size1walk1";
    private static final String WD = W + ";door p in a by 1";

    public static void main(String[] args) {
        fresh();
        tape();
        books();
        ways();
        goodTexts();
        form();
        untoldAndAgain();
        bounds();
        many();
        Check.end();
    }

    private static void fresh() {
        MineAir mine = new MineAir();
        for (int what = 0; what <= 8; what++) Check.is("new: count(" + what + ")", mine.count(what), 0);
        Check.is("new: count(9)", mine.count(9), -2);
        Check.is("new: count(10)", mine.count(10), 0);
        Check.is("new: trouble()", mine.trouble(), 0);
        Check.is("new: fault()", mine.fault(), 0);
        Check.is("new: where()", mine.where(), -1);
        Check.is("new: way(0, 0)", mine.way(0, 0), -2147483648L);
        Check.is("new: air(0)", mine.air(0), -100);
        Check.is("new: cost()", mine.cost(), 0);
    }

    private static void tape() {
        MineAir mine = new MineAir();
        mine.sound();
        for (int i = 1; i <= 30; i++) Check.is("feed " + i, mine.feed(-1, 0, 1, 2, 3), 20 * i);
        Check.is("feed beyond 600", mine.feed(0, 0, 0, 0, 0), -1);
        Check.is("count(10)", mine.count(10), 600);
        Check.is("feed leaves trouble()", mine.trouble(), 1);
        Check.refused(mine, "book(601)", mine.book(601), -1, 2);
        Check.is("THE TAPE stays", mine.count(10), 600);
        Check.refused(mine, "book(600)", mine.book(600), -1, 4);
        Check.is("THE TAPE is empty", mine.count(10), 0);
        // the highest byte first: "way " is 0x77617920
        mine.feed(0x77617920, 0x61206461, 0x79207820, 0x68696e64, 0x65723773);
        mine.feed(0x697a6533, 0x32377761, 0x6c6b3939, 0x20202020, 0xffffffff);
        Check.refused(mine, "book(36)", mine.book(36), 1, 0);
        Check.is("hinder", mine.way(0, 2), 7);
        Check.is("size", mine.way(0, 3), 327);
        Check.is("walk", mine.way(0, 4), 99);
    }

    private static void books() {
        MineAir mine = new MineAir();
        Check.feed(mine, W + ";");
        Check.refused(mine, "book(-1)", mine.book(-1), -1, 2);
        Check.is("fault() without a FAULT", mine.fault(), 0);
        Check.refused(mine, "book(41)", mine.book(41), -1, 2);
        Check.is("THE TAPE stays", mine.count(10), 40);
        Check.refused(mine, "book up to the break", mine.book(W.length()), 1, 0);
        Check.is("THE TAPE is empty", mine.count(10), 0);
        changeAll(mine);
        Check.refused(mine, "a FAULT", Check.book(mine, W + ";"), -1, 4);
        Check.is("fault()", mine.fault(), 1);
        Check.is("where()", mine.where(), W.length() + 1);
        Check.is("the BOOK stays", mine.count(0), 1);
        Check.is("MEN stay", mine.count(6), 1);
        Check.is("FALL stays", mine.way(0, 9), 1);
        Check.is("THE TAPE is empty behind a FAULT", mine.count(10), 0);
        Check.is("where() stays", mine.where(), W.length() + 1);
        mine.feed(0, 0, 0, 0, 0);
        mine.air(0);
        mine.count(0);
        Check.is("where() stays behind calls that can't be refused", mine.where(), W.length() + 1);
        Check.refused(mine, "book(21)", mine.book(21), -1, 2);
        Check.is("where() behind 2", mine.where(), -1);
        Check.is("fault() behind 2", mine.fault(), 1);
        mine.book(20);
        Check.is("fault() of byte 0", mine.fault(), 1);
        Check.is("where() of byte 0", mine.where(), 0);
        mine.mark(5);
        Check.is("where() behind a call that was not refused", mine.where(), -1);
        Check.is("fault() stays", mine.fault(), 1);
        Check.refused(mine, "a BOOK again", Check.book(mine, WD + ";fan f in a push 5 fall 1 cost 1"), 1, 0);
        Check.is("fault() of a good BOOK", mine.fault(), 0);
        asAtFirst(mine);
    }

    private static void changeAll(MineAir mine) {
        mine.fall(0, true);
        mine.fire(0, 7);
        mine.man(0);
        mine.change(2, 0, 0);
        mine.reading(0, 0, 0);
        mine.mark(999);
    }

    private static void asAtFirst(MineAir mine) {
        for (int what = 6; what <= 8; what++) Check.is("new BOOK: count(" + what + ")", mine.count(what), 0);
        Check.is("new BOOK: fallen", mine.way(0, 9), 0);
        Check.is("new BOOK: FIRE", mine.way(0, 10), 0);
        Check.is("new BOOK: shut", mine.way(0, 2), 2);
        Check.is("new BOOK: it is shut", mine.door(0, false), false);
        String face = "way a day x hinder1size1walk1;way b x day hinder1size1walk1;fan f in a push 190 fall 0 cost 1;"
                + "face g in b gas ";
        Check.book(mine, face + "1 need 0");
        Check.is("SPEED 1 at first", mine.air(0), 9);
        Check.is("THICK 111 is OVER 10", mine.over(), 1);
        mine.mark(111);
        Check.is("THICK 111 is not OVER 111", mine.over(), 0);
        mine.speed(0, 2);
        mine.fire(1, 9);
        Check.book(mine, face + "1 need 0");
        Check.is("SPEED 1 again", mine.air(0), 9);
        Check.is("MARK 10 again", mine.over(), 1);
    }

    private static void ways() {
        MineAir mine = Check.of("way a x day hinder 7 size 11 walk 13 draught - 17;way b y x hinder 9 size 12 walk 14;"
                + "way c day z hinder 1 size 1 walk 1 draught 5000;door p in b by 20;fan f in a push 1 fall 0 cost 1;"
                + "fan h in b push 1 fall 0 cost 1;face g in b gas 0 need 0");
        int[] a = {0, 1, 7, 11, 13, -17, -2, 0, -2, 0, 0};
        int[] b = {2, 0, 29, 12, 14, 0, 0, 1, 0, 0, 0};
        int[] c = {1, 3, 1, 1, 1, 5000, -2, -2, -2, 0, 0};
        for (int what = 0; what <= 10; what++) {
            Check.is("way(0, " + what + ")", mine.way(0, what), a[what]);
            Check.is("way(1, " + what + ")", mine.way(1, what), b[what]);
            Check.is("way(2, " + what + ")", mine.way(2, what), c[what]);
        }
        Check.is("way(0, 11)", mine.way(0, 11), -2147483648L);
        Check.is("way(0, -1)", mine.way(0, -1), -2147483648L);
        Check.is("way(3, 0)", mine.way(3, 0), -2147483648L);
        Check.is("way(-1, 0)", mine.way(-1, 0), -2147483648L);
        Check.is("way() leaves trouble()", mine.trouble(), 0);
        mine.door(0, true);
        mine.fall(1, true);
        mine.fire(1, -5000);
        Check.is("HINDRANCE of an open DOOR", mine.way(1, 2), 9);
        Check.is("fallen", mine.way(1, 9), 1);
        Check.is("FIRE", mine.way(1, 10), -5000);
        Check.is("the number of day", mine.count(9), 1);
    }

    private static void good(String text, int ways) {
        MineAir mine = new MineAir();
        Check.refused(mine, text, Check.book(mine, text), ways, 0);
        Check.is(text + ": fault()", mine.fault(), 0);
        Check.is(text + ": where()", mine.where(), -1);
    }

    private static void goodTexts() {
        good(W, 1);
        good("   " + W + "   ", 1);
        good("way a day x hinder 0099 size 999 walk 99 draught 0", 1);
        good("way a day x hinder1size1walk1draught-5000", 1);
        good("way a day x hinder1size1walk1draught-0;way b day x hinder1size1walk1draught5000", 2);
        good("way abcdefgh day zyxwvuts hinder1size1walk1", 1);
        good("way day day hinder hinder1size1walk1;door draught in day by 99;fan in in day push 999 fall 99 cost 99", 1);
        good("way hinder draught size hinder1size1walk1;face push in hinder gas 999 need 60", 1);
        good(W + ";way b y z hinder1size1walk1;way x a b hinder1size1walk1", 3);
        good(WD + ";way b day x hinder1size1walk1;door q in b by 1;pair p q;pair q p;pair p q", 2);
        good(W + ";fan f in a push 1 fall 0 cost 1;face g in a gas 0 need 0;door p in a by 1", 1);
    }

    /** The place is told by a sign ^ in the text. */
    private static void bad(int fault, String marked) {
        int place = marked.indexOf('^');
        String text = marked.substring(0, place) + marked.substring(place + 1);
        MineAir mine = new MineAir();
        Check.refused(mine, marked, Check.book(mine, text), -1, 4);
        Check.is(marked + ": fault()", mine.fault(), fault);
        Check.is(marked + ": where()", mine.where(), place);
        Check.is(marked + ": no BOOK", mine.count(0), 0);
    }

    private static void form() {
        bad(1, "^");
        bad(1, "    ^");
        bad(1, "^;");
        bad(1, "^5");
        bad(1, "^-");
        bad(1, "^ways");
        bad(1, "^Way");
        bad(1, "way a day x hinder1size1walk1 ;   ^");
        bad(1, W + ";^;");
        bad(1, W + " ^x");
        bad(1, W + " ^-");
        bad(1, W + "^.");
        bad(1, "way ^5 day x");
        bad(1, "way ^abcdefghi day x hinder1size1walk1");
        bad(1, "way a day x hinder ^00001");
        bad(1, "way a day x hinder ^- 1");
        bad(1, "way a day x hinder ^size");
        bad(1, "way a day x ^size 1");
        bad(1, "way a day hinder^1");
        bad(1, "way a day x hinder1^walk1");
        bad(1, "way a day x hinder1size1^");
        bad(1, "way a day x hinder1size1walk1draught^");
        bad(1, "way a day x hinder1size1walk1draught-^-1");
        bad(1, "way a day x hinder1size1walk1draught-^");
        bad(1, "way a day x hinder1size1walk1draught1^draught1");
        for (String held : new String[] {"way", "door", "pair", "fan", "face"}) {
            bad(1, "way ^" + held + " day x");
            bad(1, "way a ^" + held + " x");
            bad(1, "way a x ^" + held + " hinder1");
            bad(1, WD + ";door ^" + held);
            bad(1, W + ";door p in ^" + held);
            bad(1, WD + ";pair ^" + held);
            bad(1, WD + ";pair p ^" + held);
        }
        bad(1, W + ";door p ^a");
        bad(1, W + ";door p in a ^1");
        bad(1, W + ";fan f in a push 1 ^cost 1");
        bad(1, W + ";face f in a gas 1^;");
        bad(1, WD + ";pair p^;");
        for (int sign : new int[] {0, 9, 10, 31, 33, 47, 58, 60, 64, 65, 90, 96, 123, 127, 128, 160, 225, 255}) {
            bad(1, W + "^" + (char) sign);
            bad(1, "way a day^" + (char) sign + " x");
        }
    }

    private static void untoldAndAgain() {
        bad(2, "door p in ^a by 1");
        bad(2, W + ";door p in ^p by 1");
        bad(2, W + ";door p in ^x by 1");
        bad(2, WD + ";fan f in ^p push 1");
        bad(2, W + ";face f in ^b gas 1");
        bad(2, W + ";pair ^a a");
        bad(2, WD + ";pair p ^a");
        bad(2, WD + ";pair ^q q");
        bad(2, W + ";fan f in a push 1 fall 0 cost 1;pair ^f f");
        bad(3, "way a day ^day");
        bad(3, W + ";way ^a x y");
        bad(3, W + ";door ^a in a by 1");
        bad(3, WD + ";door q in ^a by 1");
        bad(3, WD + ";fan ^p in a push 1");
        bad(3, WD + ";face ^a in a gas 1");
        bad(3, WD + ";way ^p day x");
        bad(3, W + ";fan f in a push 1 fall 0 cost 1;fan g in ^a push 1");
        bad(3, W + ";face f in a gas 1 need 0;face g in ^a gas 1");
        bad(3, W + ";face f in a gas 1 need 0;door ^f in a by 1");
        bad(3, WD + ";pair p ^p");
        // the first that is met
        bad(3, W + ";door ^a in b by 0");
        bad(2, W + ";door b in ^b by 0;.");
    }

    private static void bounds() {
        bad(4, "way a day x hinder ^0");
        bad(4, "way a day x hinder ^100");
        bad(4, "way a day x hinder 1 size ^0");
        bad(4, "way a day x hinder 99 size ^1000");
        bad(4, "way a day x hinder 1 size 999 walk ^0");
        bad(4, "way a day x hinder 1 size 1 walk ^100");
        bad(4, W + " draught ^5001");
        bad(4, W + " draught - ^5001");
        bad(4, W + ";door p in a by ^0");
        bad(4, W + ";door p in a by ^100");
        bad(4, W + ";fan f in a push ^0");
        bad(4, W + ";fan f in a push ^1000");
        bad(4, W + ";fan f in a push 999 fall ^100");
        bad(4, W + ";fan f in a push 999 fall 0 cost ^0");
        bad(4, W + ";fan f in a push 999 fall 99 cost ^100");
        bad(4, W + ";face f in a gas ^1000");
        bad(4, W + ";face f in a gas 999 need ^61");
    }

    private static String side(int ways) {
        StringBuilder text = new StringBuilder();
        for (int w = 0; w < ways; w++) {
            text.append(w == 0 ? "" : ";").append("way ").append((char) ('a' + w)).append(" x y hinder1size1walk1");
        }
        return text.toString();
    }

    private static void many() {
        good(side(14), 14);
        bad(5, side(14) + ";way ^o x y hinder1size1walk1");
        bad(3, side(14) + ";way ^c x y hinder1size1walk1");
        bad(1, side(14) + ";way ^fan x y hinder1size1walk1");
        String doors = side(7);
        for (int d = 0; d < 6; d++) doors += ";door p" + (char) ('a' + d) + " in " + (char) ('a' + d) + " by 1";
        good(doors + ";pair pa pb;pair pa pc;pair pd pe", 7);
        bad(5, doors + ";door ^q in g by 1");
        bad(3, doors + ";door ^a in g by 1");
        bad(5, doors + ";pair pa pb;pair pa pc;pair pd pe;pair ^pa pb");
        bad(2, doors + ";pair pa pb;pair pa pc;pair pd pe;pair ^q pb");
        String fans = side(5);
        String faces = side(5);
        for (int i = 0; i < 4; i++) {
            fans += ";fan q" + (char) ('a' + i) + " in " + (char) ('a' + i) + " push 1 fall 0 cost 1";
            faces += ";face q" + (char) ('a' + i) + " in " + (char) ('a' + i) + " gas 1 need 0";
        }
        good(fans, 5);
        good(faces, 5);
        bad(5, fans + ";fan ^q in e push 1 fall 0 cost 1");
        bad(5, faces + ";face ^q in e gas 1 need 1");
        String most = side(14);
        for (int d = 0; d < 6; d++) most += ";door p" + (char) ('a' + d) + " in " + (char) ('a' + d) + " by1";
        for (int f = 0; f < 3; f++) most += ";fan q" + (char) ('a' + f) + " in " + (char) ('a' + f) + " push1fall0cost1";
        good(most, 14);
        bad(3, most + ";way ^n");
        String knots = "way a a b hinder1size1walk1;way b c d hinder1size1walk1;way c e f hinder1size1walk1;"
                + "way d g h hinder1size1walk1";
        good(knots + ";way e i j hinder1size1walk1;way f a j hinder1size1walk1", 6);
        bad(5, knots + ";way e i j hinder1size1walk1;way f ^k a");
        bad(5, knots + ";way e i j hinder1size1walk1;way f a ^k");
        bad(3, knots + ";way e i j hinder1size1walk1;way f j ^j");
    }
}
