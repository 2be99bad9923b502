import java.util.ArrayList;
import java.util.List;
import java.util.Random;

/** TEXTS by chance (from a told seed, so each run makes the same). */
final class Chance {
    final Random dice;

    Chance(long seed) {
        dice = new Random(seed);
    }

    int from(int least, int most) {
        return least + dice.nextInt(most - least + 1);
    }

    boolean oneIn(int n) {
        return dice.nextInt(n) == 0;
    }

    String book(int mostWays, int mostKnots, int mostFans) {
        int ways = from(1, mostWays);
        int knots = from(2, Math.min(mostKnots, ways + 2));
        boolean gentle = dice.nextBoolean();
        boolean sky = !oneIn(12);
        List<String> lines = new ArrayList<>();
        for (int w = 0; w < ways; w++) {
            int a = w < knots - 1 && !oneIn(8) ? from(0, w) : from(0, knots - 1);
            int b = w < knots - 1 && a != w + 1 ? w + 1 : from(0, knots - 1);
            while (a == b) b = from(0, knots - 1);
            boolean swap = dice.nextBoolean();
            String line = "way " + (char) ('a' + w) + " " + knot(swap ? b : a, sky) + " " + knot(swap ? a : b, sky)
                    + " hinder" + from(1, gentle ? 9 : 99) + "size" + from(1, 999) + "walk" + from(1, 30);
            if (oneIn(4)) line += "draught" + (dice.nextBoolean() ? "-" : "") + from(0, oneIn(3) ? 5000 : 300);
            lines.add(line);
        }
        gear(lines, ways, mostFans, gentle);
        return joined(lines);
    }

    private void gear(List<String> lines, int ways, int mostFans, boolean gentle) {
        int doors = gear(lines, ways, from(0, 6), "door p", () -> "by" + from(1, 99));
        for (int p = from(0, 3); p > 0 && doors > 1; p--) {
            int a = from(0, doors - 1);
            lines.add("pair p" + (char) ('a' + a) + " p" + (char) ('a' + (a + from(1, doors - 1)) % doors));
        }
        gear(lines, ways, from(0, mostFans), "fan q",
                () -> "push" + from(1, oneIn(3) ? 999 : 200) + "fall" + (oneIn(2) ? 0 : from(0, 99)) + "cost" + from(1, oneIn(2) ? 2 : 99));
        gear(lines, ways, from(0, gentle ? 2 : 4), "face r",
                () -> "gas" + (oneIn(3) ? from(0, 999) : from(0, 3)) + "need" + (oneIn(6) ? from(0, 60) : from(0, 2)));
    }

    private interface Rest {
        String tell();
    }

    private int gear(List<String> lines, int ways, int most, String lead, Rest rest) {
        int n = Math.min(most, ways);
        int at = from(0, ways - 1);
        for (int i = 0; i < n; i++) {
            lines.add(lead + (char) ('a' + i) + " in " + (char) ('a' + (at + i) % ways) + " " + rest.tell());
        }
        return n;
    }

    private static String knot(int k, boolean sky) {
        return k == 0 && sky ? "day" : "" + (char) ('k' + k);
    }

    private String joined(List<String> lines) {
        StringBuilder text = new StringBuilder();
        for (String line : lines) {
            if (text.length() + line.length() + 1 > 600) continue;
            if (line.startsWith("pair") && !text.toString().contains("door " + line.substring(8))) continue;
            if (line.startsWith("pair") && !text.toString().contains("door " + line.substring(5, 7))) continue;
            text.append(text.length() == 0 ? "" : ";").append(line);
        }
        return text.toString();
    }

    /** A TEXT with something about it changed, mostly to a FAULT. */
    String spoilt(String text) {
        StringBuilder s = new StringBuilder(text);
        for (int n = from(1, 2); n > 0; n--) {
            int at = from(0, s.length() - 1);
            switch (from(0, 5)) {
                case 0 -> s.deleteCharAt(at);
                case 1 -> s.setCharAt(at, " ;-0a9z".charAt(from(0, 6)));
                case 2 -> s.insert(at, " ;-0a9zk".charAt(from(0, 7)));
                case 3 -> s.setCharAt(at, (char) from(0, 255));
                case 4 -> s.setLength(Math.max(1, at));
                default -> s.insert(at, new String[] {"way ", "99", ";pair pa pb", ";pair pa pa", ";way z aa bb", " in "}[from(0, 5)]);
            }
        }
        if (s.length() > 600) s.setLength(600);
        return s.toString();
    }
}
