/** LINES of a TEXT, as the tests tell them. */
final class Lines {
    private Lines() {
    }

    static String way(String name, String knots, int hinder) {
        return way(name, knots, hinder, 1, 1);
    }

    static String way(String name, String knots, int hinder, int size, int walk) {
        return "way " + name + " " + knots + " hinder" + hinder + "size" + size + "walk" + walk;
    }

    static String drawn(String name, String knots, int hinder, int draught) {
        return way(name, knots, hinder) + "draught" + draught;
    }

    static String door(String name, String way, int by) {
        return "door " + name + " in " + way + " by" + by;
    }

    static String fan(String name, String way, int push, int fall, int cost) {
        return "fan " + name + " in " + way + " push" + push + "fall" + fall + "cost" + cost;
    }

    static String face(String name, String way, int gas, int need) {
        return "face " + name + " in " + way + " gas" + gas + "need" + need;
    }

    static String book(String... lines) {
        return String.join(";", lines);
    }

    static MineAir mine(String... lines) {
        return Check.of(book(lines));
    }

    /** By how much a round of this HINDRANCE must be drawn for this AIR: one less would not do. */
    static int drawFor(int hindrance, int air) {
        return hindrance * air * air + 1;
    }
}
