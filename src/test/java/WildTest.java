import java.util.NoSuchElementException;
import java.util.Random;

/** Any arguments in any state: no call throws but led(), and the same calls always give the same answers. */
public final class WildTest {
    private static final int[] NUMBERS = {Integer.MIN_VALUE, Integer.MIN_VALUE + 1, -10000, -5001, -5000, -101, -61, -60, -4, -3, -2, -1, 0, 1,
        2, 3, 4, 5, 6, 7, 8, 9, 10, 11, 13, 14, 15, 19, 20, 21, 59, 60, 61, 500, 600, 601, 999, 1000, 5000, 5001, 9999, 10000,
        Integer.MAX_VALUE - 1, Integer.MAX_VALUE};

    private final Random dice;
    private final MineAir mine = new MineAir();
    private final int[] wild = new int[5];

    private WildTest(long seed) {
        dice = new Random(seed);
    }

    public static void main(String[] args) {
        int runs = args.length > 0 ? Integer.parseInt(args[0]) : 600;
        for (int seed = 0; seed < runs; seed++) {
            long once = new WildTest(seed).play();
            if (seed % 4 == 0) Check.is("run " + seed + " again", new WildTest(seed).play(), once);
        }
        Check.end();
    }

    private long play() {
        long sum = 0;
        int calls = 0;
        if (dice.nextInt(8) > 0) {
            String text = new Chance(dice.nextLong()).book(14, 10, 4);
            if (dice.nextInt(3) == 0) text = new Chance(dice.nextLong()).spoilt(text);
            Check.book(mine, text);
            calls = text.length() / 20 + 2;
        }
        while (calls < 512) {
            for (int i = 0; i < 5; i++) wild[i] = dice.nextInt(3) > 0 ? dice.nextInt(15) - 1 : NUMBERS[dice.nextInt(NUMBERS.length)];
            int kind = dice.nextInt(30);
            // a BOOK that stays for a while meets more
            if (kind == 1 && dice.nextInt(4) > 0) continue;
            calls++;
            sum = 31 * sum + guarded(kind);
        }
        return sum;
    }

    private long guarded(int kind) {
        try {
            return kind < 15 ? call(kind) : callMore(kind);
        } catch (NoSuchElementException e) {
            Check.is("only led() throws", kind, 27);
            return 77;
        } catch (RuntimeException e) {
            Check.is("call " + kind + " throws " + e, 1, 0);
            return 78;
        }
    }

    private static int one(boolean b) {
        return b ? 1 : 0;
    }

    private long call(int kind) {
        int a = wild[0];
        int b = wild[1];
        boolean on = dice.nextBoolean();
        switch (kind) {
            case 0: return mine.feed(a, b, wild[2], wild[3], wild[4]);
            case 1: return mine.book(a);
            case 2: return mine.fault();
            case 3: return mine.where();
            case 4: return mine.way(a, b);
            case 5: return one(mine.door(a, on));
            case 6: return one(mine.speed(a, b));
            case 7: return one(mine.fall(a, on && b % 3 == 0));
            case 8: return one(mine.fire(a, b));
            case 9: return one(mine.mark(a));
            case 10: return mine.air(a);
            case 11: return mine.cost();
            case 12: return mine.turned(a);
            case 13: return mine.gas(a);
            default: return mine.thick(a);
        }
    }

    private long callMore(int kind) {
        int a = wild[0];
        int b = wild[1];
        switch (kind) {
            case 15: return mine.over();
            case 16: return mine.sound();
            case 17: return mine.failing(dice.nextBoolean());
            case 18: return mine.setting();
            case 19: return mine.smoke(a);
            case 20: return mine.man(a);
            case 21: return mine.out(a);
            case 22: return mine.change(a % 4, b, wild[2]);
            case 23: return mine.order(a);
            case 24: return mine.make();
            case 25: return mine.reading(a, b, wild[2]);
            case 26: return mine.fits(a);
            case 27: return mine.led(a, b);
            case 28: return mine.count(a);
            default: return mine.trouble();
        }
    }
}
