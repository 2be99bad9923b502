/** Promises 15 to 18: gas, thick, over, sound. */
public final class GasTest {
    public static void main(String[] args) {
        noBook();
        shares();
        likeRests();
        backIn();
        still();
        rings();
        verdicts();
        Check.end();
    }

    private static void noBook() {
        MineAir mine = new MineAir();
        Check.refused(mine, "gas(0)", mine.gas(0), -1, 1);
        Check.refused(mine, "thick(0)", mine.thick(0), -1, 1);
        Check.refused(mine, "over()", mine.over(), -1, 1);
        Check.refused(mine, "sound()", mine.sound(), -1, 1);
    }

    private static String way(char name, String knots, int hinder, int draught) {
        return "way " + name + " " + knots + " hinder " + hinder + " size 1 walk 1"
                + (draught == 0 ? "" : " draught " + draught);
    }

    private static void gases(MineAir mine, String when, int... due) {
        for (int w = 0; w < due.length; w++) Check.refused(mine, when + ": gas(" + w + ")", mine.gas(w), due[w], 0);
    }

    private static void thicks(MineAir mine, String when, int... due) {
        for (int w = 0; w < due.length; w++) Check.refused(mine, when + ": thick(" + w + ")", mine.thick(w), due[w], 0);
    }

    private static void shares() {
        MineAir mine = Check.of(way('a', "day x", 1, 900) + ";" + way('b', "x day", 50, 0) + ";"
                + way('c', "x day", 99, 0) + ";" + way('d', "x day", 99, 0)
                + ";door p in d by 99;face g in a gas 10 need 0");
        Check.air(mine, "shares", 8, 4, 2, 2);
        // 40 / 8, 20 / 8, 20 / 8: 5, 2 and 2; of the like rests the lesser WAY has one more
        gases(mine, "like rests", 10, 5, 3, 2);
        thicks(mine, "like rests", 1250, 1250, 1500, 1000);
        Check.refused(mine, "over()", mine.over(), 4, 0);
        Check.refused(mine, "gas(4)", mine.gas(4), -1, 1);
        Check.refused(mine, "gas(-1)", mine.gas(-1), -1, 1);
        Check.refused(mine, "thick(4)", mine.thick(4), -1, 1);
        Check.refused(mine, "thick(-1)", mine.thick(-1), -1, 1);
        mine = Check.of(way('a', "day x", 1, 700) + ";" + way('b', "x day", 40, 0) + ";"
                + way('c', "x day", 99, 0) + ";" + way('d', "x day", 99, 0)
                + ";door p in d by 99;face g in a gas 10 need 0");
        Check.air(mine, "unlike", 7, 4, 2, 1);
        // 40 / 7, 20 / 7, 10 / 7: 5, 2 and 1 with the rests 5, 6, 3: two parts more
        gases(mine, "unlike rests", 10, 6, 3, 1);
        thicks(mine, "unlike rests", 1428, 1500, 1500, 1000);
    }

    private static void likeRests() {
        MineAir mine = Check.of(way('a', "day x", 1, 80) + ";" + way('b', "x day", 9, 0) + ";" + way('c', "x day", 9, 0)
                + ";" + way('d', "x day", 9, 0) + ";face g in a gas 5 need 0;face h in c gas 7 need 0");
        Check.air(mine, "thirds", 6, 2, 2, 2);
        gases(mine, "thirds", 5, 2, 9, 1);
        thicks(mine, "thirds", 833, 1000, 4500, 500);
    }

    /** What has come to day is gone: none goes in from there. */
    private static void backIn() {
        MineAir mine = Check.of(way('a', "x day", 1, 20) + ";" + way('b', "day x", 1, 0) + ";" + way('c', "y day", 1, 0)
                + ";" + way('d', "day y", 1, 20) + ";face g in a gas 8 need 0;face h in d gas 5 need 0");
        Check.air(mine, "two rounds", 3, 3, 3, 3);
        gases(mine, "two rounds", 8, 0, 5, 5);
        mine.fire(0, -40);
        Check.air(mine, "turned about", -3, -3, 3, 3);
        gases(mine, "turned about", 8, 8, 5, 5);
    }

    private static void still() {
        MineAir mine = Check.of(way('a', "day x", 1, 20) + ";" + way('b', "x day", 1, 0) + ";" + way('c', "x y", 1, 99)
                + ";" + way('d', "y z", 1, 0) + ";face g in c gas 4 need 0;face h in b gas 0 need 0;face i in d gas 0 need 0");
        Check.air(mine, "an end", 3, 3, 0, 0);
        gases(mine, "an end", 0, 0, 4, 0);
        thicks(mine, "an end", 0, 0, 1000, 0);
        Check.refused(mine, "over()", mine.over(), 1, 0);
        mine.mark(999);
        Check.refused(mine, "over() by 999", mine.over(), 1, 0);
        mine.fall(1, true);
        gases(mine, "all still", 0, 0, 4, 0);
        thicks(mine, "all still", 0, 0, 1000, 0);
    }

    private static void rings() {
        MineAir mine = Check.of(way('a', "day x", 1, 50) + ";" + way('b', "x y", 1, 0) + ";" + way('c', "y x", 1, 0)
                + ";" + way('d', "y day", 1, 0) + ";fan f in c push 999 fall 0 cost 1;face g in a gas 3 need 0");
        Check.is("a ring besides", mine.air(1) > 0 && mine.air(2) > 0, true);
        Check.refused(mine, "gas(0)", mine.gas(0), -1, 5);
        Check.refused(mine, "thick(3)", mine.thick(3), -1, 5);
        Check.refused(mine, "gas(9)", mine.gas(9), -1, 1);
        Check.refused(mine, "thick(9)", mine.thick(9), -1, 1);
        Check.refused(mine, "over()", mine.over(), -1, 5);
        Check.refused(mine, "sound()", mine.sound(), 1, 0);
        mine.speed(0, 0);
        Check.is("no ring", mine.air(2) <= 0, true);
        Check.refused(mine, "gas(0)", mine.gas(0), 3, 0);
        mine = Check.of(way('a', "p q", 1, 50) + ";" + way('b', "q p", 1, 0));
        Check.refused(mine, "a mine without day: sound()", mine.sound(), 1, 0);
        mine.fire(0, -50);
        Check.refused(mine, "no AIR, no RING", mine.sound(), 0, 0);
        mine = Check.of(way('a', "p day", 1, 50) + ";" + way('b', "day p", 1, 0));
        Check.refused(mine, "round by day", mine.sound(), 0, 0);
    }

    private static void verdicts() {
        MineAir mine = Check.of(way('a', "day x", 1, 110) + ";" + way('b', "x day", 8, 0) + ";" + way('c', "x day", 8, 0)
                + ";door p in b by 10;door q in c by 10;pair p q;face g in a gas 1 need 6;face h in c gas 0 need 0");
        Check.air(mine, "both shut", 4, 2, 2);
        Check.refused(mine, "OVER", mine.sound(), 2, 0);
        mine.mark(500);
        Check.refused(mine, "below its need", mine.sound(), 3, 0);
        mine.door(0, true);
        Check.air(mine, "one open", 5, 3, 2);
        Check.refused(mine, "below its need still", mine.sound(), 3, 0);
        mine.door(1, true);
        Check.air(mine, "both open", 6, 3, 3);
        Check.refused(mine, "a PAIR", mine.sound(), 4, 0);
        mine.mark(160);
        Check.refused(mine, "OVER ahead of the PAIR", mine.sound(), 2, 0);
        mine.mark(999);
        mine.door(1, false);
        mine.fire(0, 200);
        Check.refused(mine, "SOUND", mine.sound(), 0, 0);
        mine.fire(0, -400);
        Check.is("the other way", mine.air(0) <= -6, true);
        Check.refused(mine, "SOUND without the sign", mine.sound(), 0, 0);
    }
}
