/** What the tests share: texts onto THE TAPE, answers against what is due. */
final class Check {
    private static int asked = 0;
    private static int wrong = 0;

    private Check() {
    }

    static void is(String what, long got, long due) {
        asked++;
        if (got == due) return;
        wrong++;
        if (wrong <= 40) System.out.println(what + " answered " + got + ", due is " + due);
    }

    static void is(String what, boolean got, boolean due) {
        is(what, got ? 1 : 0, due ? 1 : 0);
    }

    /** An answer, and the TROUBLE behind it. */
    static void refused(MineAir mine, String what, long got, long due, int trouble) {
        is(what, got, due);
        is(what + ": trouble()", mine.trouble(), trouble);
    }

    static void denied(MineAir mine, String what, boolean got, int trouble) {
        is(what, got, false);
        is(what + ": trouble()", mine.trouble(), trouble);
    }

    static void granted(MineAir mine, String what, boolean got) {
        is(what, got, true);
        is(what + ": trouble()", mine.trouble(), 0);
    }

    /** The text onto THE TAPE, with blanks up to the next twenty bytes. */
    static int feed(MineAir mine, String text) {
        int answer = 0;
        for (int at = 0; at < text.length(); at += 20) {
            int[] five = new int[5];
            for (int i = 0; i < 20; i++) {
                int sign = at + i < text.length() ? text.charAt(at + i) : ' ';
                five[i / 4] = five[i / 4] << 8 | sign;
            }
            answer = mine.feed(five[0], five[1], five[2], five[3], five[4]);
        }
        return answer;
    }

    static int book(MineAir mine, String text) {
        feed(mine, text);
        return mine.book(text.length());
    }

    static MineAir of(String text) {
        MineAir mine = new MineAir();
        if (book(mine, text) < 1) {
            wrong++;
            System.out.println("no BOOK: FAULT " + mine.fault() + " at " + mine.where() + ": " + text);
        }
        return mine;
    }

    static void air(MineAir mine, String when, int... due) {
        for (int w = 0; w < due.length; w++) is(when + ": air(" + w + ")", mine.air(w), due[w]);
    }

    /** The KNOT of led(), or -9 if it throws. */
    static int led(MineAir mine, int man, int i) {
        try {
            return mine.led(man, i);
        } catch (java.util.NoSuchElementException e) {
            return -9;
        }
    }

    static void end() {
        if (asked == 0 || wrong > 0) {
            System.out.println(wrong + " of " + asked + " answers are not as due");
            System.exit(1);
        }
        System.out.println("all " + asked + " answers are as due");
    }
}
