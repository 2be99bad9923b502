/** Promises 1 to 5 at their edges: THE TAPE's 600 bytes, n, and what a refused book() leaves as it was. */
public final class TapeEdgeTest {
    private static final int BLANKS = 0x20202020;
    private static final String W = Lines.way("a", "day x", 1);

    public static void main(String[] args) {
        lastByte();
        nothingBeyond();
        highestFirst();
        placeOfEachByte();
        firstBytes();
        numbersOutside();
        numberNought();
        leftByTwo();
        leftByFour();
        anew();
        faultOfTheLatest();
        whereOfTheLatest();
        Check.end();
    }

    /** "THE TAPE has 600 bytes": the last of them is read, and ends a BOOK. */
    private static void lastByte() {
        String lead = "way a day x hinder 1 size 1 walk";
        String text = lead + " ".repeat(599 - lead.length()) + "7";
        MineAir mine = new MineAir();
        Check.is("600 bytes", Check.feed(mine, text), 600);
        Check.refused(mine, "book(600)", mine.book(600), 1, 0);
        Check.is("the last byte", mine.way(0, 4), 7);
        Check.feed(mine, text);
        Check.refused(mine, "book(599)", mine.book(599), -1, 4);
        Check.is("FORM at the end", mine.fault(), 1);
        Check.is("the end is at 599", mine.where(), 599);
        Check.feed(mine, text.substring(0, 599) + "?");
        Check.refused(mine, "a bad last byte", mine.book(600), -1, 4);
        Check.is("it is at 599", mine.where(), 599);
        Check.feed(mine, lead + " ".repeat(600 - lead.length()));
        Check.refused(mine, "no end of the LINE", mine.book(600), -1, 4);
        Check.is("the end is at 600", mine.where(), 600);
    }

    /** "NONE, and none comes, if there would be more than 600". */
    private static void nothingBeyond() {
        MineAir mine = new MineAir();
        Check.is("580 bytes", Check.feed(mine, W + " ".repeat(580 - W.length())), 580);
        Check.is("to 600", mine.feed(BLANKS, BLANKS, BLANKS, BLANKS, BLANKS), 600);
        for (int i = 0; i < 3; i++) Check.is("beyond", mine.feed(-1, -1, -1, -1, -1), -1);
        Check.is("count(10)", mine.count(10), 600);
        Check.is("no number is told of it", mine.trouble(), 0);
        Check.refused(mine, "what was there stands", mine.book(600), 1, 0);
        Check.is("room again", mine.feed(-1, -1, -1, -1, -1), 20);
    }

    /** "of each number the highest first". */
    private static void highestFirst() {
        MineAir mine = new MineAir();
        mine.feed('w' << 24 | 'a' << 16 | 'y' << 8 | ' ', 'a' << 24 | ' ' << 16 | 'd' << 8 | 'a',
                'y' << 24 | ' ' << 16 | 'x' << 8 | ' ', 'h' << 24 | 'i' << 16 | 'n' << 8 | 'd',
                'e' << 24 | 'r' << 16 | '9' << 8 | '8');
        mine.feed('s' << 24 | 'i' << 16 | 'z' << 8 | 'e', '1' << 24 | '2' << 16 | '3' << 8 | 'w',
                'a' << 24 | 'l' << 16 | 'k' << 8 | '4', '5' << 24 | 'd' << 16 | 'r' << 8 | 'a',
                'u' << 24 | 'g' << 16 | 'h' << 8 | 't');
        mine.feed('-' << 24 | '6' << 16 | '7' << 8 | '8', BLANKS, BLANKS, BLANKS, BLANKS);
        Check.refused(mine, "book(60)", mine.book(60), 1, 0);
        int[] due = {0, 1, 98, 123, 45, -678};
        for (int what = 0; what < 6; what++) Check.is("way(0, " + what + ")", mine.way(0, what), due[what]);
    }

    private static void placeOfEachByte() {
        for (int at = 0; at < 20; at++) {
            int[] five = {BLANKS, BLANKS, BLANKS, BLANKS, BLANKS};
            five[at / 4] |= 255 << 24 - at % 4 * 8;
            MineAir mine = new MineAir();
            Check.is("feed", mine.feed(five[0], five[1], five[2], five[3], five[4]), 20);
            Check.refused(mine, "a bad byte", mine.book(20), -1, 4);
            Check.is("its place", mine.where(), at);
        }
    }

    /** "The first n bytes of THE TAPE (it is empty then)", n up to as many as there are. */
    private static void firstBytes() {
        String two = W + ";" + Lines.way("b", "x day", 2);
        MineAir mine = new MineAir();
        Check.feed(mine, two);
        Check.refused(mine, "the first LINE alone", mine.book(W.length()), 1, 0);
        Check.is("what is behind it is gone", mine.count(10), 0);
        Check.refused(mine, "nothing is left to read", mine.book(1), -1, 2);
        Check.is("fed anew", mine.feed(BLANKS, BLANKS, BLANKS, BLANKS, BLANKS), 20);
        Check.feed(mine, two);
        Check.refused(mine, "all there is", mine.book(mine.count(10)), 2, 0);
        Check.feed(mine, two);
        Check.refused(mine, "a byte less than a LINE", mine.book(W.length() - 1), -1, 4);
        Check.is("THE TAPE is empty behind a FAULT", mine.count(10), 0);
        // what is behind the n-th byte is no part of a TOKEN
        String doors = Lines.book(W, Lines.way("b", "x day", 2), Lines.door("p", "a", 1), Lines.door("q", "b", 1), "pair p q");
        for (String behind : new String[] {"x", "qqqqqqqqqq", "7", "?"}) {
            Check.feed(mine, doors + behind);
            Check.refused(mine, "a WORD ends at n", mine.book(doors.length()), 2, 0);
            Check.is("PAIR", mine.count(3), 1);
            Check.feed(mine, W.substring(0, W.length() - 1) + "12" + behind);
            Check.refused(mine, "a WHOLE ends at n", mine.book(W.length()), 1, 0);
            Check.is("walk", mine.way(0, 4), 1);
        }
    }

    private static void numbersOutside() {
        int[] full = {0, 1, 29, 30};
        for (int feeds : full) {
            MineAir mine = new MineAir();
            for (int i = 0; i < feeds; i++) mine.feed(BLANKS, BLANKS, BLANKS, BLANKS, BLANKS);
            int[] outside = {-1, -600, Integer.MIN_VALUE, 20 * feeds + 1, 601, Integer.MAX_VALUE};
            for (int n : outside) {
                Check.refused(mine, "book(" + n + ") of " + 20 * feeds, mine.book(n), -1, 2);
                Check.is("THE TAPE stays", mine.count(10), 20 * feeds);
                Check.is("no FAULT", mine.fault(), 0);
                Check.is("no place", mine.where(), -1);
            }
            Check.refused(mine, "as many as there are", mine.book(20 * feeds), -1, 4);
            Check.is("the end", mine.where(), 20 * feeds);
        }
    }

    private static void numberNought() {
        MineAir mine = new MineAir();
        Check.refused(mine, "book(0) of an empty TAPE", mine.book(0), -1, 4);
        Check.is("FORM", mine.fault(), 1);
        Check.is("at 0", mine.where(), 0);
        Check.feed(mine, W);
        Check.refused(mine, "book(0) of a LINE", mine.book(0), -1, 4);
        Check.is("FORM", mine.fault(), 1);
        Check.is("at 0", mine.where(), 0);
        Check.is("THE TAPE is empty", mine.count(10), 0);
    }

    /** All that can be other than at first is other. */
    private static MineAir moved() {
        MineAir mine = Lines.mine(Lines.drawn("a", "day x", 1, 90), Lines.way("b", "x day", 1), Lines.way("c", "x day", 1),
                Lines.way("d", "x y", 1), Lines.door("p", "a", 5), Lines.door("q", "b", 5), "pair p q",
                Lines.fan("f", "a", 60, 1, 2), Lines.face("g", "b", 1, 1));
        mine.mark(400);
        mine.door(0, true);
        mine.speed(0, 3);
        mine.fall(2, true);
        mine.fire(3, -7);
        mine.man(1);
        mine.man(2);
        mine.change(1, 0, 2);
        mine.change(0, 0, 0);
        mine.reading(0, -60, 60);
        mine.reading(1, 1, 60);
        return mine;
    }

    /** "2 (THE TAPE stays)", and so does all else. */
    private static void leftByTwo() {
        MineAir mine = moved();
        String before = Look.at(mine);
        Check.feed(mine, W);
        Check.refused(mine, "refused by 2", mine.book(mine.count(10) + 1), -1, 2);
        Look.same("behind 2 all is as it was", mine, before);
        Check.is("THE TAPE, too", mine.count(10), 40);
        Check.refused(mine, "it can be read still", mine.book(W.length()), 1, 0);
    }

    /** "4 (the BOOK stays)", THE TAPE doesn't; each of the five FAULTS, also far behind in the TEXT. */
    private static void leftByFour() {
        String[] faulty = {"", W + ";", "door p in a by 1", W + ";" + W, "way a day x hinder 0",
            Lines.book(Lines.way("a", "a b", 1), Lines.way("b", "c d", 1), Lines.way("c", "e f", 1),
                    Lines.way("d", "g h", 1), Lines.way("e", "i j", 1), Lines.way("f", "k a", 1))};
        int[] due = {1, 1, 2, 3, 4, 5};
        MineAir mine = moved();
        String before = Look.at(mine);
        for (int i = 0; i < faulty.length; i++) {
            Check.refused(mine, "refused by 4", Check.book(mine, faulty[i]), -1, 4);
            Check.is("FAULT of " + faulty[i], mine.fault(), due[i]);
            Check.is("THE TAPE is empty", mine.count(10), 0);
            Look.same("behind 4 all but THE TAPE is as it was", mine, before);
        }
        Check.refused(mine, "THE ORDER is made still", mine.make(), 2, 0);
        MineAir none = new MineAir();
        Check.refused(none, "no BOOK", Check.book(none, faulty[5]), -1, 4);
        for (int what = 0; what <= 8; what++) Check.is("none of a faulty TEXT is there", none.count(what), 0);
        Check.is("nor its day", none.count(9), -2);
    }

    /** "STATE as at first, no MEN, CHANGES, READINGS, MARK 10": as if nothing had been ahead of it. */
    private static void anew() {
        String[] texts = {W, Lines.book(W, Lines.way("b", "x day", 1), Lines.fan("f", "a", 60, 0, 2),
                Lines.face("g", "b", 1, 1), Lines.door("p", "b", 3)), Lines.way("a", "x y", 1)};
        for (String text : texts) {
            MineAir mine = moved();
            Look.at(mine);
            Check.is("a BOOK behind another", Check.book(mine, text), mine.count(0));
            Look.same("as in a new object", mine, Look.at(Check.of(text)));
        }
        MineAir mine = moved();
        Check.is("the BOOK was changed", Look.at(mine).equals(Look.at(Check.of(W))), false);
    }

    /** fault(): "The FAULT of the latest book() not refused by 2; 0 without one." */
    private static void faultOfTheLatest() {
        MineAir mine = new MineAir();
        Check.is("none yet", mine.fault(), 0);
        mine.book(1);
        Check.is("behind 2 alone", mine.fault(), 0);
        Check.book(mine, "way a day day");
        Check.is("behind 4", mine.fault(), 3);
        mine.book(-1);
        Check.is("behind 4, then 2", mine.fault(), 3);
        mine.mark(1);
        mine.sound();
        Check.is("behind other calls", mine.fault(), 3);
        Check.book(mine, W);
        Check.is("behind a BOOK", mine.fault(), 0);
        mine.book(1);
        Check.is("behind a BOOK, then 2", mine.fault(), 0);
        mine.book(0);
        Check.is("behind 4 again", mine.fault(), 1);
    }

    /** where(): "Its place, if the latest call that may be refused was by 4; NONE else." */
    private static void whereOfTheLatest() {
        MineAir mine = new MineAir();
        Check.is("new", mine.where(), -1);
        Check.book(mine, "way a day day");
        Check.is("by 4", mine.where(), 10);
        Check.is("asked again", mine.where(), 10);
        mine.feed(0, 0, 0, 0, 0);
        mine.count(0);
        mine.way(0, 0);
        mine.air(0);
        mine.cost();
        mine.fault();
        mine.trouble();
        Check.led(mine, 0, 0);
        Check.is("calls of which no number is told", mine.where(), 10);
        mine.sound();
        Check.is("a call refused by 1", mine.where(), -1);
        Check.book(mine, "way a day day");
        mine.make();
        Check.is("a call refused by 5", mine.where(), -1);
        Check.book(mine, "way a day day");
        mine.mark(1);
        Check.is("a call that wasn't refused", mine.where(), -1);
        Check.book(mine, "way a day day");
        mine.book(-1);
        Check.is("a book() refused by 2", mine.where(), -1);
        Check.book(mine, W);
        Check.is("a book() that wasn't refused", mine.where(), -1);
    }
}
