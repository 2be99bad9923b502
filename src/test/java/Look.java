/** All that an object tells of its BOOK, STATE, MEN, CHANGES and READINGS, as one text. */
final class Look {
    private final MineAir mine;
    private final StringBuilder seen = new StringBuilder();

    private Look(MineAir mine) {
        this.mine = mine;
    }

    static String at(MineAir mine) {
        Look look = new Look(mine);
        look.book();
        look.air();
        look.trials();
        look.men();
        look.plan();
        return look.seen.toString();
    }

    static void same(String what, MineAir mine, String before) {
        String after = at(mine);
        if (!after.equals(before)) System.out.println(what + "\n  was " + before + "\n  is  " + after);
        Check.is(what, after.equals(before), true);
    }

    private void note(String what, long answer) {
        seen.append(what).append('=').append(answer).append(' ');
    }

    private void book() {
        for (int what = 0; what <= 9; what++) note("count" + what, mine.count(what));
        for (int w = 0; w < mine.count(0); w++) {
            for (int what = 0; what <= 10; what++) note("way" + w + "," + what, mine.way(w, what));
        }
    }

    private void air() {
        note("cost", mine.cost());
        note("over", mine.over());
        note("sound", mine.sound());
        for (int w = 0; w < mine.count(0); w++) {
            note("air" + w, mine.air(w));
            note("gas" + w, mine.gas(w));
            note("thick" + w, mine.thick(w));
            note("smoke" + w, mine.smoke(w));
        }
    }

    private void trials() {
        for (int f = 0; f < mine.count(4); f++) note("turned" + f, mine.turned(f));
        note("failing", mine.failing(true));
        note("failing", mine.failing(false));
        note("setting", mine.setting());
    }

    private void men() {
        for (int m = 0; m < mine.count(6); m++) {
            note("out" + m, mine.out(m));
            for (int i = 0; i < 11; i++) note("led" + m, Check.led(mine, m, i));
        }
    }

    private void plan() {
        for (int i = 0; i < mine.count(7); i++) note("order" + i, mine.order(i));
        if (mine.count(8) > 0) {
            note("fits0", mine.fits(0));
            note("fits9999", mine.fits(9999));
        }
    }
}
