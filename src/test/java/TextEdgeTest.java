import java.util.ArrayList;
import java.util.List;

/** Terms I at its edges: TOKENS, LINES, bounds, rooms, and which of several FAULTS is told. */
public final class TextEdgeTest {
    private static final String[] HELD = {"way", "door", "pair", "fan", "face"};
    private static final String[] FREE = {"day", "in", "by", "hinder", "size", "walk", "draught", "push", "fall", "cost",
        "gas", "need", "ways", "wa", "doors", "fans", "faces", "pairs", "a", "z", "abcdefgh", "zzzzzzzz"};
    private static final String A = Lines.way("a", "day x", 1);
    private static final String B = Lines.way("b", "day x", 1);
    private static final String AB = Lines.book(A, B);
    private static final String DOORS = Lines.book(AB, Lines.door("p", "a", 1), Lines.door("q", "b", 1));

    public static void main(String[] args) {
        blanks();
        bytesThatBeginNone();
        longWords();
        longWholes();
        brokenLines();
        heldAndFreeNames();
        bounds();
        toldAhead();
        toldOnce();
        knotNames();
        oneOfEachInAWay();
        unlikeOnes();
        rooms();
        fullKnots();
        firstFromTheLeft();
        leastOfOnePlace();
        Check.end();
    }

    private static MineAir good(String text, int ways) {
        MineAir mine = new MineAir();
        Check.refused(mine, text, Check.book(mine, text), ways, 0);
        Check.is(text + ": fault()", mine.fault(), 0);
        return mine;
    }

    private static void bad(String text, int fault, int place) {
        MineAir mine = new MineAir();
        Check.refused(mine, text, Check.book(mine, text), -1, 4);
        Check.is(text + ": fault()", mine.fault(), fault);
        Check.is(text + ": where()", mine.where(), place);
    }

    /** The FAULT is where the second part begins. */
    private static void badAt(int fault, String ahead, String from) {
        bad(ahead + from, fault, ahead.length());
    }

    /** "blanks, 32, part TOKENS and mean nothing else". */
    private static void blanks() {
        MineAir mine = good("   way   a  day    x hinder  12size 345   walk67draught   -   890  ", 1);
        int[] due = {0, 1, 12, 345, 67, -890};
        for (int what = 0; what < 6; what++) Check.is("with blanks: way(0, " + what + ")", mine.way(0, what), due[what]);
        good("way a day x hinder1size1walk1draught-1;door p in a by1", 1);
        good("way a day x hinder1size1walk1draught-1 ; door p in a by1 ", 1);
        badAt(1, "", "wa y a day x hinder1size1walk1");
        badAt(1, "", "waya day x hinder1size1walk1");
        badAt(1, "way a day x hinder 1 ", "2 size 1 walk 1");
        badAt(1, "way a day x ", "hin der 1");
        badAt(1, "way a dayx hinder", "1size1walk1");
        badAt(1, A + " draught - ", "- 1");
        badAt(1, A + "draught1 ", "0");
    }

    /** "the first byte that begins no TOKEN", at each kind of place. */
    private static void bytesThatBeginNone() {
        for (int sign = 0; sign < 256; sign++) {
            boolean letter = sign >= 'a' && sign <= 'z';
            boolean digit = sign >= '0' && sign <= '9';
            if (letter || digit || sign == ' ') continue;
            badAt(1, "way a day x ", (char) sign + "hinder 1");
            if (sign != ';') badAt(1, A + " ", (char) sign + "");
            if (sign != '-') badAt(1, A + "draught", (char) sign + "1");
            badAt(1, "", (char) sign + A);
        }
        good("way a day x hinder1size1walk1draught0", 1);
        badAt(1, "way az day x", "Ahinder1");
        badAt(1, "way a day x hinder1", "/");
        badAt(1, "way a day x hinder1", ":");
    }

    /** "WORDS of 1 to 8 small letters that stand together", wherever a WORD may be. */
    private static void longWords() {
        String eight = "abcdefgh";
        String nine = "abcdefghi";
        good("way " + eight + " day x hinder1size1walk1;door p in " + eight + " by1", 1);
        good("way a " + eight + " " + eight.replace('h', 'i') + " hinder1size1walk1", 1);
        badAt(1, "", nine);
        badAt(1, "", "wayyyyyyy a day x");
        badAt(1, "way ", nine + " day x");
        badAt(1, "way a ", nine + " x");
        badAt(1, "way a x ", nine + " hinder1");
        badAt(1, "way a day x ", "hinderrrr 1");
        badAt(1, A + " ", "draughttt 1");
        badAt(1, A + ";door ", nine + " in a by 1");
        badAt(1, A + ";door p in ", nine + " by 1");
        badAt(1, DOORS + ";pair ", nine + " p");
        badAt(1, DOORS + ";pair p ", nine);
        badAt(1, A + ";fan ", nine + " in a push 1");
        badAt(1, A + ";face ", nine + " in a gas 1");
        badAt(1, "way ", "a".repeat(30) + " day x");
        badAt(1, "way ", "aaaaaaaaaaaaaaaaaday day x");
        // words that differ in the eighth letter alone are two
        MineAir mine = good("way abcdefgh day x hinder1size1walk1;way abcdefgi day zzzzzzzz hinder1size1walk1;"
                + "way bbcdefgh zzzzzzzy zzzzzzzz hinder1size1walk1", 3);
        Check.is("four KNOTS", mine.count(1), 4);
    }

    /** "WHOLES of 1 to 4 digits that do". */
    private static void longWholes() {
        MineAir mine = good("way a day x hinder 0099 size 0999 walk 0001 draught - 5000", 1);
        int[] due = {0, 1, 99, 999, 1, -5000};
        for (int what = 0; what < 6; what++) Check.is("four digits: way(0, " + what + ")", mine.way(0, what), due[what]);
        badAt(1, "way a day x hinder ", "00001");
        badAt(1, "way a day x hinder ", "10000");
        badAt(1, "way a day x hinder 1 size ", "00999");
        badAt(1, A + "draught ", "05000");
        badAt(1, A + "draught - ", "00000");
        badAt(1, A + ";door p in a by ", "00001");
        badAt(1, A + ";face g in a gas ", "1".repeat(40));
        badAt(4, "way a day x hinder ", "9999");
        badAt(4, A + "draught ", "9999");
    }

    private static String joined(List<String> tokens, int upTo) {
        return String.join(" ", tokens.subList(0, upTo));
    }

    /** "TOKEN with which no BOOK goes on (the end: its place)": at each TOKEN of each LINE. */
    private static void brokenLines() {
        brokenLine("", "way NAME KNOT KNOT hinder 1 size 1 walk 1", "");
        brokenLine(Lines.way("c", "day x", 1) + " ", "draught - 1", "");
        brokenLine(Lines.way("c", "day x", 1) + " ", "draught 1", "");
        brokenLine(AB + ";", "door NAME in b by 1", "b");
        brokenLine(DOORS + ";", "pair p q", "pq");
        brokenLine(AB + ";", "fan NAME in b push 1 fall 1 cost 1", "b");
        brokenLine(AB + ";", "face NAME in b gas 1 need 1", "b");
    }

    private static void brokenLine(String ahead, String line, String told) {
        List<String> tokens = new ArrayList<>(List.of(line.replace("NAME", "name").replace("KNOT KNOT", "kn km").split(" ")));
        good(ahead + joined(tokens, tokens.size()), tokens.get(0).equals("way") ? 1 : ahead.startsWith("way c") ? 1 : 2);
        for (int i = 0; i < tokens.size(); i++) {
            String upTo = ahead + joined(tokens, i) + (i == 0 ? "" : " ");
            if (i > 0 || !tokens.get(0).equals("draught")) bad(upTo, 1, upTo.length());
            String rest = " " + String.join(" ", tokens.subList(i, tokens.size()));
            String token = tokens.get(i);
            boolean whole = token.equals("1");
            boolean dash = token.equals("-");
            boolean name = token.equals("name") || token.startsWith("k") || told.contains(token);
            List<String> wrong = new ArrayList<>(List.of("?", ",", "W", "_"));
            if (!(i == 0 && token.equals("draught"))) wrong.add(";");
            if (!dash && !(whole && i == 1)) wrong.add("-");
            if (!whole && !dash) wrong.add("7");
            if (!name) wrong.addAll(List.of("zz", token.equals("in") ? "inn" : "i", "day"));
            wrong.addAll(List.of(HELD));
            for (String w : wrong) if (i > 0 || !List.of(HELD).contains(w)) badAt(1, upTo, w + rest);
        }
        String end = ahead + joined(tokens, tokens.size());
        for (String w : new String[] {"zz", "7", "-", "?", "way"}) badAt(1, end + " ", w);
        bad(end + ";", 1, end.length() + 1);
        bad(end + " ; ", 1, end.length() + 3);
        badAt(1, end + ";", ";");
        badAt(1, "", ";" + end);
    }

    /** "NAMES are WORDS but way, door, pair, fan, face"; "KNOTS are such WORDS". */
    private static void heldAndFreeNames() {
        for (String held : HELD) {
            badAt(1, "way ", held + " day x hinder1size1walk1");
            badAt(1, "way a ", held + " x hinder1size1walk1");
            badAt(1, "way a x ", held + " hinder1size1walk1");
            badAt(1, AB + ";door ", held + " in a by 1");
            badAt(1, AB + ";door p in ", held + " by 1");
            badAt(1, AB + ";fan ", held + " in a push 1 fall 1 cost 1");
            badAt(1, AB + ";fan f in ", held + " push 1 fall 1 cost 1");
            badAt(1, AB + ";face ", held + " in a gas 1 need 1");
            badAt(1, AB + ";face f in ", held + " gas 1 need 1");
            badAt(1, DOORS + ";pair ", held + " q");
            badAt(1, DOORS + ";pair p ", held);
        }
        for (String free : FREE) {
            good(Lines.way(free, "k m", 1) + ";" + Lines.door("aa", free, 1) + ";" + Lines.fan("bb", free, 1, 1, 1)
                    + ";" + Lines.face("cc", free, 1, 1), 1);
            good(Lines.way("aa", free + " bb", 1) + ";" + Lines.way("bb", "aa " + free, 1), 2);
            good(Lines.book(Lines.way("aa", "k m", 1), Lines.way("bb", "k m", 1), Lines.door(free, "aa", 1),
                    Lines.door("cc", "bb", 1), "pair " + free + " cc", "pair cc " + free), 2);
            good(Lines.way("aa", "k m", 1) + ";" + Lines.fan(free, "aa", 1, 1, 1), 1);
            good(Lines.way("aa", "k m", 1) + ";" + Lines.face(free, "aa", 1, 1), 1);
        }
    }

    /** "the bounds behind each LINE": the last inside, the first outside. */
    private static void bounds() {
        bound("way a day x hinder ", 1, 99, " size 1 walk 1", 2);
        bound("way a day x hinder 1 size ", 1, 999, " walk 1", 3);
        bound("way a day x hinder 1 size 1 walk ", 1, 99, "", 4);
        bound(A + " draught ", 0, 5000, "", 5);
        bound(A + " draught - ", 0, 5000, "", -5);
        bound(A + ";door p in a by ", 1, 99, "", -1);
        bound(A + ";fan f in a push ", 1, 999, " fall 0 cost 1", -1);
        bound(A + ";fan f in a push 1 fall ", 0, 99, " cost 1", -1);
        bound(A + ";fan f in a push 1 fall 0 cost ", 1, 99, "", -1);
        bound(A + ";face g in a gas ", 0, 999, " need 1", -1);
        bound(A + ";face g in a gas 1 need ", 0, 60, "", -1);
    }

    private static void bound(String ahead, int least, int most, String behind, int what) {
        for (int value : new int[] {least, least + 1, most - 1, most}) {
            MineAir mine = good(ahead + value + behind, 1);
            if (what >= 2) Check.is(ahead + value, mine.way(0, what), value);
            if (what == -5) Check.is(ahead + value, mine.way(0, 5), -value);
        }
        if (least > 0) badAt(4, ahead, "0" + behind);
        if (least > 0) badAt(4, ahead, "0000" + behind);
        badAt(4, ahead, (most + 1) + behind);
        badAt(4, ahead, "9999" + behind);
        badAt(1, ahead, "10000" + behind);
    }

    /** "of a WAY told ahead"; "2 a NAME that should be told (a WAY's or DOOR's) and isn't; at it". */
    private static void toldAhead() {
        String[] leads = {"door n in ", "fan n in ", "face n in "};
        String[] rests = {" by 1", " push 1 fall 1 cost 1", " gas 1 need 1"};
        for (int i = 0; i < 3; i++) {
            badAt(2, leads[i], "a" + rests[i]);
            badAt(2, leads[i], "a" + rests[i] + ";" + A);
            badAt(2, A + ";" + leads[i], "b" + rests[i] + ";" + B);
            badAt(2, A + ";" + leads[i], "n" + rests[i]);
            badAt(2, A + ";" + leads[i], "x" + rests[i]);
            badAt(2, A + ";" + leads[i], "day" + rests[i]);
            badAt(2, DOORS + ";" + leads[i], "p" + rests[i]);
            good(A + ";" + leads[i] + "a" + rests[i], 1);
        }
        badAt(2, A + ";fan f in a push 1 fall 1 cost 1;door p in ", "f by 1");
        badAt(2, A + ";face f in a gas 1 need 1;door p in ", "f by 1");
        badAt(2, "pair ", "p q");
        badAt(2, DOORS + ";pair ", "a q");
        badAt(2, DOORS + ";pair p ", "a");
        badAt(2, DOORS + ";pair p ", "r;door r in b by 1");
        badAt(2, DOORS + ";pair ", "x q");
        badAt(2, DOORS + ";fan f in a push 1 fall 1 cost 1;pair p ", "f");
        badAt(2, DOORS + ";face f in a gas 1 need 1;pair ", "f p");
    }

    /** "(told once, whatever they name)": 3 at the NAME told again. */
    private static void toldOnce() {
        String first = Lines.book(A, B, Lines.way("c", "day x", 1), Lines.door("d", "a", 1), Lines.fan("f", "a", 1, 1, 1),
                Lines.face("g", "a", 1, 1));
        for (String name : new String[] {"a", "b", "c", "d", "f", "g"}) {
            badAt(3, first + ";way ", name + " day x hinder1size1walk1");
            badAt(3, first + ";door ", name + " in b by 1");
            badAt(3, first + ";fan ", name + " in b push 1 fall 1 cost 1");
            badAt(3, first + ";face ", name + " in b gas 1 need 1");
        }
        good(first + ";" + Lines.way("h", "day x", 1), 4);
    }

    /** "KNOTS .. known from the first WAY on that has them (they may be like NAMES)"; numbers "as they come". */
    private static void knotNames() {
        MineAir mine = good(Lines.book(Lines.way("a", "a b", 1), Lines.way("b", "b day", 1), Lines.way("day", "c a", 1),
                Lines.door("c", "day", 1), Lines.way("k", "day b", 1)), 4);
        int[] first = {0, 1, 3, 2};
        int[] second = {1, 2, 0, 1};
        for (int w = 0; w < 4; w++) {
            Check.is("first KNOT of " + w, mine.way(w, 0), first[w]);
            Check.is("second KNOT of " + w, mine.way(w, 1), second[w]);
        }
        Check.is("KNOTS", mine.count(1), 4);
        Check.is("the number of day", mine.count(9), 2);
        Check.is("day as the first", good(A, 1).count(9), 0);
        Check.is("day as the second", good(Lines.way("a", "x day", 1), 1).count(9), 1);
        Check.is("no day", good(Lines.way("day", "x dayy", 1), 1).count(9), -2);
    }

    /** "a DOOR, FAN, FACE in a WAY that has one (at that WAY's NAME)"; one of each is fine. */
    private static void oneOfEachInAWay() {
        String all = Lines.book(AB, Lines.door("p", "a", 1), Lines.fan("f", "a", 1, 1, 1), Lines.face("g", "a", 1, 1));
        good(all, 2);
        badAt(3, all + ";door q in ", "a by 1");
        badAt(3, all + ";fan q in ", "a push 1 fall 1 cost 1");
        badAt(3, all + ";face q in ", "a gas 1 need 1");
        MineAir mine = good(Lines.book(all, Lines.door("q", "b", 1), Lines.fan("s", "b", 1, 1, 1),
                Lines.face("t", "b", 1, 1)), 2);
        for (int what = 6; what <= 8; what++) {
            Check.is("the first's", mine.way(0, what), 0);
            Check.is("the second's", mine.way(1, what), 1);
        }
    }

    private static void unlikeOnes() {
        badAt(3, "way a day ", "day hinder1size1walk1");
        badAt(3, "way a x ", "x hinder1size1walk1");
        badAt(3, A + ";way b x ", "x hinder1size1walk1");
        badAt(3, DOORS + ";pair p ", "p");
        badAt(3, DOORS + ";pair q ", "q");
        good(DOORS + ";pair p q;pair q p;pair p q", 2);
    }

    private static String named(int i) {
        return String.valueOf((char) ('a' + i));
    }

    private static String ways(int n) {
        List<String> lines = new ArrayList<>();
        for (int i = 0; i < n; i++) lines.add(Lines.way(named(i), "x y", 1));
        return String.join(";", lines);
    }

    private static String with(int ways, int n, String kind) {
        StringBuilder text = new StringBuilder(ways(ways));
        for (int i = 0; i < n; i++) text.append(';').append(thing(kind, "z" + named(i), named(i)));
        return text.toString();
    }

    private static String thing(String kind, String name, String way) {
        return switch (kind) {
            case "door" -> Lines.door(name, way, 1);
            case "fan" -> Lines.fan(name, way, 1, 0, 1);
            default -> Lines.face(name, way, 1, 0);
        };
    }

    /** "Up to 14 WAYS, .. 6 DOORS, 3 PAIRS, 4 FANS, 4 FACES"; one more is 5 "at its NAME". */
    private static void rooms() {
        Check.is("13 WAYS", good(ways(13), 13).count(0), 13);
        Check.is("14 WAYS", good(ways(14), 14).count(0), 14);
        badAt(5, ways(14) + ";way ", "z x y hinder1size1walk1");
        badAt(5, ways(14) + ";way ", "z");
        String[] kinds = {"door", "fan", "face"};
        int[] room = {6, 4, 4};
        int[] what = {2, 4, 5};
        for (int i = 0; i < 3; i++) {
            String full = with(room[i] + 1, room[i], kinds[i]);
            Check.is(kinds[i], good(full, room[i] + 1).count(what[i]), room[i]);
            Check.is(kinds[i], good(with(room[i], room[i] - 1, kinds[i]), room[i]).count(what[i]), room[i] - 1);
            badAt(5, full + ";" + kinds[i] + " ", thing(kinds[i], "zz", named(room[i])).substring(kinds[i].length() + 1));
            // also in a WAY that has one already, or that isn't told: the NAME is ahead of it
            badAt(5, full + ";" + kinds[i] + " ", "zz in a by");
            badAt(5, full + ";" + kinds[i] + " ", "zz in untold by");
            // the others have room still
            for (String other : kinds) if (!other.equals(kinds[i])) good(full + ";" + thing(other, "zz", "a"), room[i] + 1);
        }
        Check.is("3 PAIRS", good(DOORS + ";pair p q;pair p q;pair q p", 2).count(3), 3);
        Check.is("2 PAIRS", good(DOORS + ";pair p q;pair p q", 2).count(3), 2);
        badAt(5, DOORS + ";pair p q;pair p q;pair q p;pair ", "p q");
        badAt(5, DOORS + ";pair p q;pair p q;pair q p;pair ", "p p");
        badAt(5, DOORS + ";pair p q;pair p q;pair q p;pair ", "p");
    }

    /** "10 KNOTS"; "an eleventh KNOT, at it". */
    private static void fullKnots() {
        String eight = Lines.book(Lines.way("a", "ka kb", 1), Lines.way("b", "kc kd", 1), Lines.way("c", "ke kf", 1),
                Lines.way("d", "kg kh", 1));
        String ten = eight + ";" + Lines.way("e", "ki kj", 1);
        String nine = eight + ";" + Lines.way("e", "ki kh", 1);
        Check.is("10 KNOTS", good(ten, 5).count(1), 10);
        Check.is("10 KNOTS", good(nine + ";" + Lines.way("f", "ka kj", 1), 6).count(1), 10);
        Check.is("the last", good(nine + ";" + Lines.way("f", "day ka", 1), 6).count(9), 9);
        good(ten + ";" + Lines.way("f", "kj ka", 1), 6);
        badAt(5, ten + ";way f ", "kk ka hinder1size1walk1");
        badAt(5, ten + ";way f ka ", "kk hinder1size1walk1");
        badAt(5, ten + ";way f ", "kk kk hinder1size1walk1");
        badAt(5, ten + ";way f ", "day ka hinder1size1walk1");
        badAt(5, nine + ";way f kk ", "kj hinder1size1walk1");
        badAt(3, ten + ";way f ka ", "ka hinder1size1walk1");
    }

    /** "FAULTS, the first that is met from the left": of two in one TEXT the first. */
    private static void firstFromTheLeft() {
        String ahead = Lines.book(ways(2), Lines.door("p", "a", 1), Lines.door("q", "b", 1), "pair p q", "pair p q",
                "pair p q", "");
        String[] sound = {"fan s in a push 1 ", "door r in ", "way ", "way c x y hinder ", "pair "};
        String[] faulty = {"cost 1 fall 1", "c by 1", "a x y hinder1size1walk1", "100size1walk1", "p q"};
        String[] whole = {"pair p ?", "door r in c by 1", "way a x y hinder1size1walk1", "way c x y hinder0size1walk1", "pair p q"};
        for (int i = 0; i < 5; i++) {
            for (String second : whole) badAt(i + 1, ahead + sound[i], faulty[i] + ";" + second);
        }
        badAt(3, "way a x ", "x hinder 0 size 0 walk 0");
        badAt(4, "way a x y hinder ", "0 size 0 walk ?");
        badAt(4, "way a x y hinder 1 size ", "0 walk 0");
        badAt(2, A + ";door q in ", "b by 0");
        badAt(4, A + ";door q in a by ", "0;pair p p");
        badAt(3, A + ";door ", "a in b by 0");
    }

    /** "of one place the least number". */
    private static void leastOfOnePlace() {
        badAt(1, ways(14) + ";way ", "door");
        badAt(3, ways(14) + ";way ", "n x y hinder1size1walk1");
        String[] kinds = {"door", "fan", "face"};
        int[] room = {6, 4, 4};
        for (int i = 0; i < 3; i++) {
            String full = with(room[i] + 1, room[i], kinds[i]);
            badAt(1, full + ";" + kinds[i] + " ", kinds[i]);
            badAt(1, full + ";" + kinds[i] + " ", "7");
            bad(full + ";" + kinds[i] + " ", 1, full.length() + kinds[i].length() + 2);
            badAt(3, full + ";" + kinds[i] + " ", "a in a");
            badAt(3, full + ";" + kinds[i] + " ", "za in a");
        }
        String pairs = DOORS + ";pair p q;pair p q;pair q p;pair ";
        badAt(1, pairs, "fan q");
        badAt(2, pairs, "a q");
        badAt(2, pairs, "r q");
        String ten = Lines.book(Lines.way("a", "ka kb", 1), Lines.way("b", "kc kd", 1), Lines.way("c", "ke kf", 1),
                Lines.way("d", "kg kh", 1), Lines.way("e", "ki kj", 1));
        badAt(1, ten + ";way f ", "face ka");
        badAt(1, ten + ";way f ka ", "face");
        badAt(1, ten + ";way f ka ", "abcdefghi");
    }
}
