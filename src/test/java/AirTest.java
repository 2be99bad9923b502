/**
 * THE AIR against every AIR there is, in small mines; and promises 12 to 14 by hand.
 * The mines have few independent rounds, so that all whole AIRS within -60 .. 60 can be tried.
 */
public final class AirTest {
    public static void main(String[] args) {
        byHand();
        ties();
        backward();
        turnedAbout();
        edges();
        Chance chance = new Chance(77);
        for (int i = 0; i < 400; i++) parallel(chance, 2);
        for (int i = 0; i < 60; i++) parallel(chance, 3);
        for (int i = 0; i < 200; i++) bridge(chance);
        Check.end();
    }

    private static void byHand() {
        MineAir mine = new MineAir();
        Check.is("air(0) without a BOOK", mine.air(0), -100);
        Check.is("cost() without a BOOK", mine.cost(), 0);
        mine = Check.of("way a day x hinder 3 size 1 walk 1; way b x day hinder 2 size 1 walk 1 draught 44");
        // 5 q q against 44: two parts (-39, -24) gain, the third (+1) does not
        Check.air(mine, "draught", 2, 2, -100);
        Check.is("air(-1)", mine.air(-1), -100);
        Check.is("cost()", mine.cost(), 5 - 44 + 20 - 44);
        mine.fire(0, -100);
        Check.air(mine, "fire against it", -3, -3);
        Check.is("cost()", mine.cost(), 5 - 56 + 20 - 56 + 45 - 56);
        mine.fall(0, true);
        Check.air(mine, "fallen", 0, 0);
        Check.is("cost() of none", mine.cost(), 0);
        Check.is("air() leaves trouble() as it was", mine.trouble(), 0);
        mine.fall(0, true);
        mine.air(99);
        mine.cost();
        Check.is("trouble() behind air and cost", mine.trouble(), 5);
    }

    /** Of AIRS of like COST the one of the least sum, WAYS with high numbers weighing most. */
    private static void ties() {
        MineAir mine = Check.of("way a day x hinder 1 size 1 walk 1; way b x day hinder 1 size 1 walk 1 draught 8");
        // the second part costs 2 * 4 - 8 = 0: it is not taken
        Check.air(mine, "a step for nothing", 1, 1);
        mine = Check.of("way a day x hinder 5 size 1 walk 1; way b day x hinder 5 size 1 walk 1;"
                + "way c x day hinder 1 size 1 walk 1 draught 7");
        // one part in a or in b: a's weighs 1, b's 3
        Check.air(mine, "a or b", 1, 0, 1);
        mine = Check.of("way a x day hinder 1 size 1 walk 1 draught 7; way b day x hinder 5 size 1 walk 1;"
                + "way c x day hinder 1 size 1 walk 1 draught 7; way d day x hinder 5 size 1 walk 1;"
                + "way e day x hinder 5 size 1 walk 1");
        Check.air(mine, "two parts over three", 1, 1, 1, 1, 0);
    }

    private static void backward() {
        MineAir mine = Check.of("way a day x hinder 1 size 1 walk 1; way b x day hinder 1 size 1 walk 1;"
                + "fan f in a push 100 fall 7 cost 1");
        // a step forth costs 2 q q - 100 + 7 q: the fifth still gains
        Check.air(mine, "fan with fall", 5, 5);
        Check.is("cost()", mine.cost(), 2 * 55 - 500 + 7 * 15);
        mine.speed(0, -1);
        // the fall of the steps taken back is 7 times 0, 1, 2, 3 and 4
        Check.air(mine, "fan turned, fall as told", -5, -5);
        Check.is("cost()", mine.cost(), 2 * 55 - 500 + 7 * 10);
        mine.speed(0, 0);
        Check.air(mine, "fan still", 0, 0);
        mine.fire(1, 100);
        Check.air(mine, "fall of a FAN at SPEED 0 is felt", 5, 5);
    }

    private static void turnedAbout() {
        MineAir mine = new MineAir();
        Check.refused(mine, "turned(0) without a BOOK", mine.turned(0), -1, 1);
        mine = Check.of("way a day x hinder 1 size 1 walk 1; way b x day hinder 1 size 1 walk 1;"
                + "way c day y hinder 1 size 1 walk 1 draught 50; way d y day hinder 1 size 1 walk 1;"
                + "way e x y hinder 99 size 1 walk 1; fan f in a push 60 fall 0 cost 1; fan g in d push 5 fall 0 cost 1");
        Check.refused(mine, "turned(0)", mine.turned(0), 2, 0);
        Check.refused(mine, "turned(1)", mine.turned(1), 0, 0);
        Check.refused(mine, "turned(2)", mine.turned(2), -1, 1);
        Check.refused(mine, "turned(-1)", mine.turned(-1), -1, 1);
        Check.air(mine, "turned() changes nothing", 5, 5, 5, 5, 0);
        mine.speed(0, 0);
        Check.refused(mine, "turned(0) at SPEED 0", mine.turned(0), 0, 0);
    }

    private static void edges() {
        MineAir mine = Check.of("way a day x hinder 1 size 1 walk 1 draught 5000;"
                + "way b x day hinder 1 size 1 walk 1 draught 5000; fan f in a push 999 fall 0 cost 1");
        Check.air(mine, "no more than 60", 60, 60);
        mine.speed(0, 3);
        mine.fire(0, 5000);
        Check.air(mine, "no more than 60 with a FIRE", 60, 60);
        Check.is("cost() at 60", mine.cost(), 2L * 73810 - 60L * 17997);
        mine = Check.of("way a day x hinder 1 size 1 walk 1 draught -5000;"
                + "way b x day hinder 1 size 1 walk 1 draught - 5000");
        Check.air(mine, "no less than -60", -60, -60);
        mine = Check.of("way a x y hinder 1 size 1 walk 1 draught 5000");
        Check.air(mine, "a way that ends", 0);
        mine = Check.of("way a x y hinder 1 size 1 walk 1 draught 20; way b y x hinder 1 size 1 walk 1;"
                + "way c p q hinder 1 size 1 walk 1; way d q p hinder 1 size 1 walk 1 draught 10");
        Check.air(mine, "two mines in one BOOK", 3, 3, 2, 2);
    }

    private static long[] told(Chance chance, StringBuilder text, int w, String knots) {
        int hinder = chance.from(1, chance.oneIn(2) ? 99 : 4);
        int draught = chance.oneIn(3) ? chance.from(-5000, 5000) : chance.from(-40, 40);
        text.append(w == 0 ? "" : ";").append("way ").append((char) ('a' + w)).append(' ').append(knots)
                .append(" hinder ").append(hinder).append(" size 1 walk 1 draught ").append(draught);
        return new long[] {hinder, draught};
    }

    private static long cost(long[] way, int q) {
        long sum = 0;
        for (int i = 1; i <= q; i++) sum += way[0] * i * i - way[1];
        for (int i = 0; i > q; i--) sum -= -way[0] * (1 - i) * (1 - i) - way[1];
        return sum;
    }

    private static void compare(String text, long[][] ways, int[] best) {
        MineAir mine = Check.of(text);
        Check.air(mine, text, best);
        long sum = 0;
        for (int w = 0; w < best.length; w++) sum += cost(ways[w], best[w]);
        Check.is(text + ": cost()", mine.cost(), sum);
    }

    private static void keepBetter(long[][] costs, int[] air, int[] best, long[] bestRank) {
        long sum = 0;
        long tie = 0;
        long three = 1;
        for (int w = 0; w < air.length; w++) {
            if (air[w] < -60 || air[w] > 60) return;
            sum += costs[w][air[w] + 60];
            tie += three * Math.abs(air[w]);
            three *= 3;
        }
        if (sum > bestRank[0] || sum == bestRank[0] && tie >= bestRank[1]) return;
        bestRank[0] = sum;
        bestRank[1] = tie;
        System.arraycopy(air, 0, best, 0, air.length);
    }

    private static long[][] table(long[][] ways) {
        long[][] costs = new long[ways.length][121];
        for (int w = 0; w < ways.length; w++) for (int q = -60; q <= 60; q++) costs[w][q + 60] = cost(ways[w], q);
        return costs;
    }

    /** WAYS side by side from x to day. */
    private static void parallel(Chance chance, int free) {
        StringBuilder text = new StringBuilder();
        long[][] ways = new long[free + 1][];
        for (int w = 0; w <= free; w++) ways[w] = told(chance, text, w, "x day");
        long[][] costs = table(ways);
        int[] best = new int[free + 1];
        long[] rank = {Long.MAX_VALUE, Long.MAX_VALUE};
        int[] air = new int[free + 1];
        for (int a = -60; a <= 60; a++) {
            for (int b = -60; b <= 60; b++) {
                for (int c = free < 3 ? 0 : -60; c <= (free < 3 ? 0 : 60); c++) {
                    air[0] = a;
                    air[1] = b;
                    air[2] = free < 3 ? -a - b : c;
                    if (free == 3) air[3] = -a - b - c;
                    keepBetter(costs, air, best, rank);
                }
            }
        }
        compare(text.toString(), ways, best);
    }

    /** The bridge: from day to x and to y, from x and from y to z, x to y across, z to day. */
    private static void bridge(Chance chance) {
        StringBuilder text = new StringBuilder();
        String[] knots = {"day x", "day y", "x y", "x z", "y z"};
        long[][] ways = new long[5][];
        for (int w = 0; w < 5; w++) ways[w] = told(chance, text, w, knots[w]);
        long[][] costs = table(ways);
        int[] best = new int[5];
        long[] rank = {Long.MAX_VALUE, Long.MAX_VALUE};
        int[] air = new int[5];
        // without a way from z to day all that comes by one of d, e goes by the other
        for (int a = -60; a <= 60; a++) {
            for (int d = -60; d <= 60; d++) {
                air[0] = a;
                air[1] = -a;
                air[2] = a - d;
                air[3] = d;
                air[4] = -d;
                keepBetter(costs, air, best, rank);
            }
        }
        compare(text.toString(), ways, best);
    }
}
