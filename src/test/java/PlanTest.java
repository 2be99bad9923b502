/** Promises 24 to 28: change, order, make, reading, fits. */
public final class PlanTest {
    public static void main(String[] args) {
        noBook();
        tellChanges();
        fanOrders();
        again();
        keptUntilChanged();
        wayAndDoor();
        tellReadings();
        fitting();
        Check.end();
    }

    private static void noBook() {
        MineAir mine = new MineAir();
        Check.refused(mine, "change(2, 0, 0)", mine.change(2, 0, 0), -1, 1);
        Check.refused(mine, "order(0)", mine.order(0), -1, 1);
        Check.refused(mine, "make()", mine.make(), -1, 5);
        Check.refused(mine, "reading(0, 1, 0)", mine.reading(0, 1, 0), -1, 1);
        Check.refused(mine, "fits(-1)", mine.fits(-1), -1, 1);
    }

    /** Two FANS in one round; the FACE's need is met from 60 on of both their pushes together. */
    private static MineAir two() {
        return Check.of("way a day x hinder 1 size 1 walk 1;way b x day hinder 1 size 1 walk 1;"
                + "fan f in a push 60 fall 0 cost 5;fan g in b push 60 fall 0 cost 5;face h in b gas 0 need 5;"
                + "door p in a by 9;door q in b by 9;pair p q");
    }

    private static MineAir twoOpen() {
        MineAir mine = two();
        Check.is("door p", mine.door(0, true), true);
        mine.fire(1, 300);
        return mine;
    }

    private static void orders(MineAir mine, String when, int... due) {
        for (int i = 0; i < due.length; i++) Check.refused(mine, when + ": order(" + i + ")", mine.order(i), due[i], 0);
        Check.refused(mine, when + ": order() beyond", mine.order(due.length), -1, 1);
        Check.refused(mine, when + ": order(-1)", mine.order(-1), -1, 1);
    }

    private static void tellChanges() {
        MineAir mine = two();
        Check.refused(mine, "kind 3", mine.change(3, 0, 0), -1, 1);
        Check.refused(mine, "kind -1", mine.change(-1, 0, 0), -1, 1);
        Check.refused(mine, "DOOR 2", mine.change(0, 2, 9), -1, 1);
        Check.refused(mine, "DOOR -1", mine.change(0, -1, 0), -1, 1);
        Check.refused(mine, "FAN 2", mine.change(1, 2, 9), -1, 1);
        Check.refused(mine, "WAY 2", mine.change(2, 2, 9), -1, 1);
        Check.refused(mine, "DOOR to 2", mine.change(0, 1, 2), -1, 2);
        Check.refused(mine, "DOOR to -1", mine.change(0, 1, -1), -1, 2);
        Check.refused(mine, "SPEED 4", mine.change(1, 1, 4), -1, 2);
        Check.refused(mine, "SPEED -4", mine.change(1, 1, -4), -1, 2);
        Check.refused(mine, "WAY to 2", mine.change(2, 1, 2), -1, 2);
        Check.is("count(7)", mine.count(7), 0);
        Check.refused(mine, "a DOOR that is so", mine.change(0, 1, 0), 0, 0);
        Check.refused(mine, "SPEED -3", mine.change(1, 1, -3), 1, 0);
        Check.refused(mine, "SPEED 3", mine.change(1, 0, 3), 2, 0);
        Check.refused(mine, "a WAY", mine.change(2, 1, 1), 3, 0);
        Check.refused(mine, "a WAY again", mine.change(2, 1, 1), 4, 0);
        Check.refused(mine, "a sixth", mine.change(2, 1, 1), -1, 3);
        Check.refused(mine, "2 ahead of 3", mine.change(2, 1, 2), -1, 2);
        Check.refused(mine, "1 ahead of 3", mine.change(2, 2, 2), -1, 1);
        Check.is("count(7)", mine.count(7), 5);
        Check.is("nothing is changed yet", mine.way(1, 9), 0);
    }

    private static void fanOrders() {
        MineAir mine = twoOpen();
        Check.refused(mine, "sound()", mine.sound(), 0, 0);
        mine.change(1, 0, -3);
        mine.change(1, 1, 3);
        Check.refused(mine, "sound() still", mine.sound(), 0, 0);
        // 300 + 60 - 180 is too little for a round of hinder 11: the second FAN first
        orders(mine, "the second first", 1, 0);
        Check.refused(mine, "make()", mine.make(), 2, 0);
        Check.is("no CHANGES", mine.count(7), 0);
        Check.refused(mine, "order(0)", mine.order(0), -1, 1);
        Check.refused(mine, "make() again", mine.make(), -1, 5);
        Check.air(mine, "SPEEDS -3 and 3", 5, 5);
        Check.is("cost()", mine.cost(), 11 * 55 - 5 * 300);
        Check.refused(mine, "sound() behind it", mine.sound(), 0, 0);
        mine.change(1, 0, 0);
        mine.change(1, 0, 1);
        orders(mine, "either", 0, 1);
        mine.fire(1, 0);
        Check.refused(mine, "not SOUND ahead of all", mine.sound(), 3, 0);
        orders(mine, "not SOUND ahead of all", -2, -2);
        Check.refused(mine, "make() then", mine.make(), -1, 6);
        Check.is("the CHANGES stay", mine.count(7), 2);
    }

    /** CHANGES of one thing: the later one in THE ORDER stands. */
    private static void again() {
        MineAir mine = Check.of("way a day x hinder 1 size 1 walk 1;way b x day hinder 1 size 1 walk 1;"
                + "fan f in a push 60 fall 0 cost 5;fan g in b push 60 fall 0 cost 5;face h in b gas 0 need 5");
        mine.fire(1, 10);
        mine.change(1, 0, 2);
        mine.change(1, 0, 0);
        mine.change(1, 1, -1);
        // 0 last leaves 2 and -1; with 1 behind 0 the push would be lost
        orders(mine, "2 stands", 1, 0, 2);
        Check.refused(mine, "make()", mine.make(), 3, 0);
        Check.air(mine, "2 and -1", 5, 5);
        mine.speed(1, 0);
        Check.air(mine, "2 and 0", 8, 8);
        mine.change(1, 0, 1);
        mine.change(1, 0, 3);
        mine.change(1, 0, 1);
        mine.change(1, 0, 2);
        mine.change(1, 0, 1);
        orders(mine, "five of one FAN", 0, 1, 2, 3, 4);
        Check.refused(mine, "make()", mine.make(), 5, 0);
        Check.air(mine, "1 and 0", 5, 5);
        mine.change(1, 0, 0);
        mine.change(1, 0, 1);
        orders(mine, "never 0", -2, -2);
    }

    private static void keptUntilChanged() {
        MineAir mine = twoOpen();
        mine.change(1, 0, 1);
        orders(mine, "nothing new", 0);
        mine.door(0, false);
        Check.refused(mine, "sound()", mine.sound(), 3, 0);
        orders(mine, "shut", -2);
        mine.door(0, true);
        orders(mine, "open", 0);
        mine.fall(0, true);
        orders(mine, "fallen", -2);
        mine.fall(0, false);
        mine.speed(0, -3);
        orders(mine, "turned", -2);
        mine.speed(0, 1);
        orders(mine, "as it was", 0);
        mine.change(1, 0, -3);
        orders(mine, "one more", -2, -2);
    }

    private static void wayAndDoor() {
        MineAir mine = twoOpen();
        mine.fire(1, 500);
        mine.change(0, 1, 1);
        mine.change(0, 0, 0);
        orders(mine, "the PAIR never open", 1, 0);
        mine.change(2, 0, 1);
        orders(mine, "the WAY may not fall", -2, -2, -2);
        Check.refused(mine, "make()", mine.make(), -1, 6);
        Check.is("nothing is made", mine.way(0, 2), 1);
        mine = Check.of("way a day x hinder 1 size 1 walk 1 draught 100;way b x day hinder 1 size 1 walk 1;"
                + "way c x day hinder 1 size 1 walk 1;face g in a gas 0 need 4");
        mine.fall(2, true);
        mine.change(2, 1, 1);
        mine.change(2, 2, 0);
        orders(mine, "free one ahead of the other's fall", 1, 0);
        Check.refused(mine, "make()", mine.make(), 2, 0);
        Check.air(mine, "by c", 7, 0, 7);
        Check.is("b is fallen", mine.way(1, 9), 1);
        Check.is("c is free", mine.way(2, 9), 0);
        mine = Check.of("way a day x hinder 1 size 1 walk 1 draught 100;way b x day hinder 1 size 1 walk 1;"
                + "face g in a gas 6 need 0");
        mine.change(2, 0, 0);
        orders(mine, "OVER", -2);
        mine.mark(857);
        orders(mine, "not OVER by another MARK", 0);
        mine.mark(856);
        orders(mine, "OVER by MARK 856", -2);
    }

    private static void tellReadings() {
        MineAir mine = two();
        Check.refused(mine, "fits(0) without READINGS", mine.fits(0), -1, 5);
        Check.refused(mine, "fits(-1)", mine.fits(-1), -1, 2);
        Check.refused(mine, "fits(10000)", mine.fits(10000), -1, 2);
        Check.refused(mine, "reading(2, 0, 0)", mine.reading(2, 0, 0), -1, 1);
        Check.refused(mine, "reading(-1, 1, 0)", mine.reading(-1, 1, 0), -1, 1);
        Check.refused(mine, "reading(0, 1, 0)", mine.reading(0, 1, 0), -1, 2);
        for (int i = 1; i <= 8; i++) {
            Check.refused(mine, "reading " + i, mine.reading(i % 2, -2147483648, 2147483647), i, 0);
        }
        Check.refused(mine, "a ninth", mine.reading(0, 0, 0), -1, 3);
        Check.refused(mine, "2 ahead of 3", mine.reading(0, 1, 0), -1, 2);
        Check.refused(mine, "1 ahead of 3", mine.reading(2, 1, 0), -1, 1);
        Check.is("count(8)", mine.count(8), 8);
        Check.refused(mine, "all fit", mine.fits(9999), 3, 0);
    }

    private static void fitting() {
        MineAir mine = Check.of("way a day x hinder 1 size 1 walk 1 draught 100;way b x day hinder 1 size 1 walk 1;"
                + "way c x day hinder 1 size 1 walk 1;way d p q hinder 1 size 1 walk 1");
        Check.air(mine, "as told", 8, 4, 4, 0);
        mine.reading(0, 8, 8);
        Check.refused(mine, "fits(0)", mine.fits(0), 15, 0);
        Check.refused(mine, "fits(9999)", mine.fits(9999), 8, 0);
        mine.reading(1, 4, 5);
        mine.reading(2, -9, 4);
        Check.refused(mine, "three READINGS, fits(0)", mine.fits(0), 15, 0);
        mine = Check.of("way a day x hinder 1 size 1 walk 1 draught 100;way b x day hinder 1 size 1 walk 1;"
                + "way c x day hinder 1 size 1 walk 1;way d p q hinder 1 size 1 walk 1");
        mine.reading(1, 0, 0);
        Check.refused(mine, "b all but shut, or a", mine.fits(9999), 3, 0);
        mine.reading(2, 7, 7);
        Check.refused(mine, "b all but shut", mine.fits(9999), 2, 0);
        mine.fall(3, true);
        mine.fall(1, true);
        Check.refused(mine, "fallen ones fit not", mine.fits(0), 5, 0);
        Check.is("HINDRANCE as it was", mine.way(0, 2), 1);
        Check.air(mine, "AIR as it was", 7, 0, 7, 0);
        mine.fire(0, -200);
        Check.refused(mine, "the other way", mine.fits(0), 0, 0);
        mine = Check.of("way a day x hinder 1 size 1 walk 1 draught -100;way b x day hinder 1 size 1 walk 1");
        mine.reading(0, -7, -6);
        Check.refused(mine, "with the sign", mine.fits(0), 3, 0);
        mine.reading(1, -7, 6);
        Check.refused(mine, "with the sign, too", mine.fits(0), 3, 0);
        mine.reading(1, 7, 7);
        Check.refused(mine, "not without it", mine.fits(0), 0, 0);
    }
}
