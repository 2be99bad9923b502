import java.util.NoSuchElementException;

/** Runs of calls by chance, each answer held against Naive's. */
public final class OracleTest {
    private final Chance chance;
    private final MineAir mine = new MineAir();
    private final Naive naive = new Naive();
    private final StringBuilder run = new StringBuilder();
    private String text = "";

    private OracleTest(long seed) {
        chance = new Chance(seed);
    }

    public static void main(String[] args) {
        int runs = args.length > 0 ? Integer.parseInt(args[0]) : 1200;
        long first = args.length > 1 ? Long.parseLong(args[1]) : 1;
        for (int i = 0; i < runs; i++) new OracleTest(first + i).play();
        Check.end();
    }

    private void same(String call, long got, long due) {
        run.append(call).append(" = ").append(got).append('\n');
        if (got != due) System.out.println("--- " + text + "\n" + run);
        Check.is(call, got, due);
        Check.is(call + ": trouble()", mine.trouble(), naive.trouble());
        Check.is(call + ": where()", mine.where(), naive.where());
    }

    private void play() {
        if (chance.oneIn(5)) some(6);
        for (int books = chance.from(1, 2); books > 0; books--) {
            tellBook();
            if (chance.oneIn(3)) {
                int m = chance.from(1, 999);
                same("mark", mine.mark(m) ? 1 : 0, naive.mark(m) ? 1 : 0);
            }
            some(chance.from(10, 60));
        }
    }

    private void tellBook() {
        text = chance.book(chance.oneIn(3) ? 14 : 7, 10, chance.oneIn(4) ? 4 : 2);
        if (chance.oneIn(3)) text = chance.spoilt(text);
        for (int at = 0; at < text.length(); at += 20) {
            int[] v = new int[5];
            for (int i = 0; i < 20; i++) v[i / 4] = v[i / 4] << 8 | (at + i < text.length() ? text.charAt(at + i) : ' ');
            same("feed", mine.feed(v[0], v[1], v[2], v[3], v[4]), naive.feed(v[0], v[1], v[2], v[3], v[4]));
        }
        int n = chance.oneIn(9) ? chance.from(-1, 600) : text.length();
        same("book", mine.book(n), naive.book(n));
        same("fault", mine.fault(), naive.fault());
        for (int what = -1; what < 12; what++) same("count" + what, mine.count(what), naive.count(what));
        for (int w = -1; w < 15; w++) {
            for (int what = -1; what < 12; what++) same("way " + w + " " + what, mine.way(w, what), naive.way(w, what));
        }
    }

    /** Mostly a number of something there is. */
    private int number(int what) {
        int n = naive.count(what);
        if (chance.oneIn(99)) return chance.dice.nextBoolean() ? Integer.MIN_VALUE : Integer.MAX_VALUE;
        return n == 0 || chance.oneIn(25) ? chance.from(-2, 16) : chance.from(0, n - 1);
    }

    private void some(int calls) {
        for (int i = 0; i < calls; i++) {
            if (chance.oneIn(2)) change();
            else if (chance.oneIn(2)) ask();
            else askMore();
        }
        for (int w = 0; w < naive.count(0); w++) {
            same("air " + w, mine.air(w), naive.air(w));
            same("gas " + w, mine.gas(w), naive.gas(w));
            same("thick " + w, mine.thick(w), naive.thick(w));
            same("smoke " + w, mine.smoke(w), naive.smoke(w));
        }
        for (int man = 0; man < naive.count(6); man++) {
            same("out " + man, mine.out(man), naive.out(man));
            for (int k = -1; k < 11; k++) led(man, k);
        }
    }

    private void change() {
        boolean on = chance.dice.nextBoolean();
        switch (chance.from(0, 9)) {
            case 0 -> {
                int d = number(2);
                same("door " + d + " " + on, mine.door(d, on) ? 1 : 0, naive.door(d, on) ? 1 : 0);
            }
            case 1, 2 -> {
                int f = number(4);
                int s = chance.from(-3, 3) * (chance.oneIn(20) ? 2 : 1);
                same("speed " + f + " " + s, mine.speed(f, s) ? 1 : 0, naive.speed(f, s) ? 1 : 0);
            }
            case 3 -> {
                int w = number(0);
                boolean down = chance.oneIn(3);
                same("fall " + w + " " + down, mine.fall(w, down) ? 1 : 0, naive.fall(w, down) ? 1 : 0);
            }
            case 4 -> {
                int w = number(0);
                int p = chance.oneIn(3) ? 0 : chance.from(-200, 200) * (chance.oneIn(9) ? 26 : 1);
                same("fire " + w + " " + p, mine.fire(w, p) ? 1 : 0, naive.fire(w, p) ? 1 : 0);
            }
            case 5 -> {
                int m = chance.from(-1, 1001);
                same("mark " + m, mine.mark(m) ? 1 : 0, naive.mark(m) ? 1 : 0);
            }
            case 6 -> {
                int k = number(1);
                same("man " + k, mine.man(k), naive.man(k));
            }
            case 7, 8 -> tellChange();
            default -> {
                int w = number(0);
                int low = chance.from(-20, 8);
                int high = low + chance.from(-1, 30);
                same("reading " + w + " " + low + " " + high, mine.reading(w, low, high), naive.reading(w, low, high));
            }
        }
    }

    private void tellChange() {
        int kind = chance.oneIn(20) ? chance.from(-1, 3) : chance.from(0, 2);
        int which = number(kind == 0 ? 2 : kind == 1 ? 4 : 0);
        int value = kind == 1 ? chance.from(-4, 4) : chance.oneIn(9) ? chance.from(-1, 2) : kind == 2 && !chance.oneIn(3) ? 0 : chance.from(0, 1);
        same("change " + kind + " " + which + " " + value, mine.change(kind, which, value), naive.change(kind, which, value));
    }

    private void ask() {
        int w = number(0);
        switch (chance.from(0, 6)) {
            case 0 -> same("air " + w, mine.air(w), naive.air(w));
            case 1 -> same("cost", mine.cost(), naive.cost());
            case 2 -> {
                int f = number(4);
                same("turned " + f, mine.turned(f), naive.turned(f));
            }
            case 3 -> same("gas " + w, mine.gas(w), naive.gas(w));
            case 4 -> same("thick " + w, mine.thick(w), naive.thick(w));
            case 5 -> same("over", mine.over(), naive.over());
            default -> same("sound", mine.sound(), naive.sound());
        }
    }

    private void askMore() {
        switch (chance.from(0, 7)) {
            case 0 -> same("failing ways", mine.failing(true), naive.failing(true));
            case 1 -> same("failing fans", mine.failing(false), naive.failing(false));
            case 2 -> {
                if (naive.count(4) < 4 || chance.oneIn(8)) same("setting", mine.setting(), naive.setting());
            }
            case 3 -> {
                int man = number(6);
                same("out " + man, mine.out(man), naive.out(man));
                led(man, chance.from(-1, 4));
            }
            case 4 -> {
                for (int i = -1; i <= naive.count(7); i++) same("order " + i, mine.order(i), naive.order(i));
            }
            case 5 -> {
                if (chance.oneIn(2)) same("make", mine.make(), naive.make());
            }
            case 6 -> {
                int more = chance.oneIn(9) ? chance.from(-1, 10000) : chance.from(0, 99);
                same("fits " + more, mine.fits(more), naive.fits(more));
            }
            default -> {
                int w = number(0);
                same("smoke " + w, mine.smoke(w), naive.smoke(w));
            }
        }
    }

    private void led(int man, int i) {
        int got;
        int due;
        try {
            got = mine.led(man, i);
        } catch (NoSuchElementException e) {
            got = -9;
        }
        try {
            due = naive.led(man, i);
        } catch (NoSuchElementException e) {
            due = -9;
        }
        same("led " + man + " " + i, got, due);
    }
}
