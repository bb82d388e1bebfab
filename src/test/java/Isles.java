import java.util.ArrayList;
import java.util.Collections;
import java.util.List;
import java.util.Random;

/** Texts of isles drawn at random, and texts harmed so that some have faults. */
final class Isles {
    private Isles() { }

    static String text(Random r) {
        int places = 2 + r.nextInt(6);
        int hours = r.nextInt(3) == 0 ? 1 + r.nextInt(12) : 5 + r.nextInt(4);
        int weight = r.nextInt(5) == 0 ? 1 + r.nextInt(20) : 1 + r.nextInt(4);
        List<String> lines = new ArrayList<>();
        int paths = r.nextInt(11);
        for (int i = 0; i < paths; i++) {
            int one = r.nextInt(places);
            int other = (one + 1 + r.nextInt(places - 1)) % places;
            lines.add("path " + one + " to " + other);
        }
        for (int i = r.nextInt(6); i > 0; i--) {
            lines.add("tree at " + r.nextInt(places) + " fruit " + r.nextInt(r.nextInt(3) == 0 ? 10 : 3));
        }
        for (int i = r.nextInt(4); i > 0; i--) {
            lines.add("vine at " + r.nextInt(places) + " ripe " + r.nextInt(r.nextInt(3) == 0 ? 13 : 4));
        }
        for (int i = r.nextInt(4); i > 0; i--) lines.add("brook at " + r.nextInt(places));
        for (int i = r.nextInt(10) == 0 ? 0 : 1 + r.nextInt(5); i > 0; i--) {
            int strength = r.nextInt(3) == 0 ? 1 + r.nextInt(99) : 1 + r.nextInt(12);
            lines.add("bearer at " + r.nextInt(places) + " strength " + strength);
        }
        Collections.shuffle(lines, r);
        StringBuilder text = new StringBuilder("isle places " + places + " hours " + hours
            + " weight " + weight + " odds " + r.nextInt(11) + ";");
        for (String line : lines) text.append(r.nextInt(3) == 0 ? "\n" : " ").append(line).append(';');
        return text.toString();
    }

    static String harmed(String text, Random r) {
        StringBuilder s = new StringBuilder(text);
        for (int i = 1 + r.nextInt(2); i > 0; i--) {
            int at = r.nextInt(s.length() + 1);
            char sign = " \n;0129azATpi-\u0000\u00e9\t_".charAt(r.nextInt(17));
            switch (r.nextInt(6)) {
                case 0 -> s.insert(at, sign);
                case 1 -> s.setLength(at);
                case 2 -> s.insert(at, moreLines(r));
                case 3 -> s.insert(at, " ");
                case 4 -> {
                    if (at < s.length()) s.deleteCharAt(at);
                }
                default -> {
                    if (at < s.length()) s.setCharAt(at, sign);
                }
            }
            if (s.length() == 0) s.append(' ');
        }
        return s.toString();
    }

    private static String moreLines(Random r) {
        return switch (r.nextInt(6)) {
            case 0 -> ";path 0 to 1;path 1 to 0;path 0 to 1;path 0 to 1;path 1 to 0;path 0 to 1;";
            case 1 -> " tree at 0 fruit 0;tree at 1 fruit 9;tree at 1 fruit 10;";
            case 2 -> ";vine at 0 ripe 12;vine at 1 ripe 0;vine at 0 ripe 13;";
            case 3 -> "bearer at 0 strength 99;bearer at 1 strength 1;bearer at 1 strength 0;";
            case 4 -> "brook at 7;isle places 2 hours 1 weight 1 odds 0;";
            default -> " isle places2hours12weight20odds10;tree at 0 fruit 007;";
        };
    }
}
