/** Promises 19 and 20: failing, setting. */
public final class TrialTest {
    public static void main(String[] args) {
        noBook();
        fansThatFail();
        waysThatFail();
        settings();
        likeSettings();
        noFans();
        Check.end();
    }

    private static void noBook() {
        MineAir mine = new MineAir();
        Check.refused(mine, "failing(true)", mine.failing(true), -1, 1);
        Check.refused(mine, "failing(false)", mine.failing(false), -1, 1);
        Check.refused(mine, "setting()", mine.setting(), -1, 1);
    }

    /** Two fans in two rounds by day, each with a face; the third fan moves nothing that is needed. */
    private static MineAir three() {
        return Check.of("way a day x hinder 1 size 1 walk 1;way b x day hinder 1 size 1 walk 1;"
                + "way c day y hinder 1 size 1 walk 1;way d y day hinder 1 size 1 walk 1;"
                + "way e day z hinder 1 size 1 walk 1;way f z day hinder 1 size 1 walk 1;"
                + "fan fa in a push 60 fall 0 cost 5;fan fc in c push 60 fall 0 cost 7;fan fe in e push 60 fall 0 cost 1;"
                + "face g in b gas 0 need 5;face h in d gas 0 need 6");
    }

    private static void fansThatFail() {
        MineAir mine = three();
        Check.air(mine, "three rounds", 5, 5, 5, 5, 5, 5);
        Check.refused(mine, "not SOUND as it is: all fail", mine.failing(false), 7, 0);
        mine.speed(1, 2);
        Check.refused(mine, "sound()", mine.sound(), 0, 0);
        Check.refused(mine, "failing(false)", mine.failing(false), 3, 0);
        mine.speed(2, 0);
        Check.refused(mine, "failing(false), one is at 0", mine.failing(false), 3, 0);
        Check.refused(mine, "failing(true)", mine.failing(true), 15, 0);
        Check.air(mine, "nothing has changed", 5, 5, 7, 7, 0, 0);
        Check.is("nothing has fallen", mine.way(0, 9) + mine.way(5, 9), 0);
        mine.speed(0, 0);
        Check.refused(mine, "at SPEED 0 and not SOUND", mine.failing(false), 7, 0);
    }

    private static void waysThatFail() {
        MineAir mine = Check.of("way a day x hinder 1 size 1 walk 1;way b x day hinder 1 size 1 walk 1;"
                + "way c x day hinder 1 size 1 walk 1;fan f in a push 60 fall 0 cost 5;face g in b gas 1 need 0");
        mine.mark(999);
        Check.refused(mine, "a FACE with gas fails STILL", mine.failing(true), 3, 0);
        mine.fall(2, true);
        Check.refused(mine, "the fallen WAY is none of them", mine.failing(true), 3, 0);
        mine.mark(1);
        Check.refused(mine, "not SOUND as it is: all that aren't fallen", mine.failing(true), 3, 0);
        mine.fall(2, false);
        Check.refused(mine, "now it is", mine.failing(true), 7, 0);
        mine = Check.of("way a day x hinder 1 size 1 walk 1");
        Check.refused(mine, "no FANS", mine.failing(false), 0, 0);
        Check.refused(mine, "no FACES", mine.failing(true), 0, 0);
    }

    private static void settings() {
        MineAir mine = three();
        // 1 for the first, 2 for the second (its face needs 6), 0 for the third
        Check.refused(mine, "setting()", mine.setting(), 1 + 2 * 4, 0);
        Check.is("no SPEED has changed", mine.air(2), 5);
        Check.refused(mine, "setting() again", mine.setting(), 9, 0);
        mine.fire(2, 13);
        Check.refused(mine, "with a FIRE that helps", mine.setting(), 1 + 4, 0);
        mine.fire(2, 0);
        mine.fall(3, true);
        Check.refused(mine, "with a WAY fallen", mine.setting(), -1, 6);
        mine.fall(3, false);
        mine.speed(0, -3);
        mine.speed(1, -3);
        Check.refused(mine, "whatever the SPEEDS are", mine.setting(), 9, 0);
    }

    private static void likeSettings() {
        String round = "way a day x hinder 1 size 1 walk 1;way b x day hinder 1 size 1 walk 1;"
                + "fan f in a push 30 fall 0 cost ";
        MineAir mine = Check.of(round + "3;fan g in b push 30 fall 0 cost 3;face h in b gas 0 need 5");
        // 60 by both: 0 + 2, 1 + 1, 2 + 0 cost alike; the first FAN's SPEED is to be the least
        Check.refused(mine, "like costs", mine.setting(), 2 * 4, 0);
        mine = Check.of(round + "2;fan g in b push 30 fall 0 cost 3;face h in b gas 0 need 5");
        Check.refused(mine, "the first is cheaper", mine.setting(), 2, 0);
        mine = Check.of(round + "99;fan g in b push 30 fall 0 cost 1;face h in b gas 0 need 7");
        Check.refused(mine, "the second alone can't", mine.setting(), 1 + 3 * 4, 0);
        mine = Check.of(round + "1;fan g in b push 30 fall 0 cost 1;face h in b gas 0 need 60");
        Check.refused(mine, "none can", mine.setting(), -1, 6);
        mine = Check.of(round + "1;face h in b gas 3 need 0");
        mine.mark(600);
        Check.refused(mine, "MARK 600", mine.setting(), 2, 0);
        mine.mark(750);
        Check.refused(mine, "MARK 750", mine.setting(), 2, 0);
        mine.mark(999);
        Check.refused(mine, "MARK 999", mine.setting(), 2, 0);
        mine.mark(500);
        Check.refused(mine, "MARK 500", mine.setting(), 3, 0);
        mine.mark(499);
        Check.refused(mine, "MARK 499", mine.setting(), -1, 6);
    }

    private static void noFans() {
        MineAir mine = Check.of("way a day x hinder 1 size 1 walk 1 draught 60;way b x day hinder 1 size 1 walk 1;"
                + "door p in a by 1;door q in b by 1;pair p q");
        Check.refused(mine, "SOUND without FANS", mine.setting(), 0, 0);
        mine.door(0, true);
        mine.door(1, true);
        Check.refused(mine, "a PAIR", mine.setting(), -1, 6);
        Check.refused(mine, "a PAIR: each WAY", mine.failing(true), 3, 0);
    }
}
