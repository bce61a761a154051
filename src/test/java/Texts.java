import java.util.ArrayList;
import java.util.List;
import java.util.Map;
import java.util.Random;

/** Draws texts of CITIES and WEEKS, and breaks them. */
final class Texts {
    private static final String[] PIECES = {"wage", "delay", "odds", "corner", "road", "takes", "extra", "at", "happening",
        "hour", "great", "watcher", "fears", "roster", "order", "put", "any", "when", "is", "stands", "over", "warned",
        "loop", "end", "stop", ";", "<", ">", "=", "0", "1", "99", "100", "9999", "10000", "0001", "c0", "abcdefgh",
        "abcdefghi", "ca", "ea", "ha", "wa", "A", "\t", "\n", "-", "\u0000", "\u00e9"};
    private final Random random;

    Texts(Random random) {
        this.random = random;
    }

    private String blank() {
        int n = random.nextInt(6);
        return n == 0 ? "\n" : n == 1 ? "  " : " ";
    }

    private String name(char sort, int number) {
        return sort + String.valueOf((char) ('a' + number));
    }

    String city() {
        StringBuilder b = new StringBuilder();
        if (random.nextInt(2) == 0) {
            b.append("wage ").append(random.nextInt(12)).append(';');
        }
        if (random.nextInt(2) == 0) {
            b.append("delay").append(random.nextInt(5) + 1).append(" ;");
        }
        if (random.nextInt(2) == 0) {
            b.append("odds ").append(random.nextInt(17)).append(";\n");
        }
        int corners = random.nextInt(10) == 0 ? random.nextInt(3) : 2 + random.nextInt(7);
        for (int i = 0; i < corners; i++) {
            b.append("corner").append(blank()).append(name('c', i)).append(';');
        }
        int roads = corners < 2 ? 0 : random.nextInt(13);
        for (int i = 0; i < roads; i++) {
            int from = random.nextInt(corners);
            int to = (from + 1 + random.nextInt(corners - 1)) % corners;
            b.append("road ").append(name('c', from)).append(blank()).append(name('c', to)).append(" takes ")
                .append(1 + random.nextInt(random.nextInt(3) == 0 ? 9 : 3)).append(';');
        }
        int extras = corners == 0 ? 0 : random.nextInt(8);
        for (int i = 0; i < extras; i++) {
            b.append("extra ").append(name('e', i)).append(" at ").append(name('c', random.nextInt(corners))).append(';');
        }
        int happenings = corners == 0 ? 0 : random.nextInt(9);
        int watchers = corners == 0 ? 0 : random.nextInt(5);
        for (int i = 0; i < happenings; i++) {
            b.append("happening ").append(name('h', i)).append(" at ").append(name('c', random.nextInt(corners)))
                .append(" hour ").append(random.nextInt(random.nextInt(3) == 0 ? 60 : 15)).append(" great ")
                .append(1 + random.nextInt(random.nextInt(2) == 0 ? 4 : 2)).append(';');
        }
        for (int i = 0; i < watchers; i++) {
            b.append("watcher ").append(name('w', i)).append(" at ").append(name('c', random.nextInt(corners)))
                .append(" fears ").append(1 + random.nextInt(random.nextInt(2) == 0 ? 7 : 2)).append(';');
        }
        for (int i = 0; i < extras; i++) {
            b.append("roster ").append(name('e', i));
            for (int h = 0; h < happenings; h++) {
                if (random.nextInt(3) == 0) {
                    b.append(' ').append(name('h', h));
                }
            }
            b.append(';');
        }
        return b.length() > 900 ? city() : b.toString();
    }

    private String pick(Map<String, String> names, char sort) {
        List<String> fitting = new ArrayList<>();
        for (Map.Entry<String, String> e : names.entrySet()) {
            if (e.getValue().charAt(0) == sort) {
                fitting.add(e.getKey());
            }
        }
        fitting.sort(null);
        return fitting.isEmpty() ? null : fitting.get(random.nextInt(fitting.size()));
    }

    String weeks(Map<String, String> names) {
        StringBuilder b = new StringBuilder();
        steps(b, names, 0);
        return b.length() > 300 ? weeks(names) : b.toString();
    }

    private void steps(StringBuilder b, Map<String, String> names, int depth) {
        int many = random.nextInt(5);
        for (int i = 0; i < many; i++) {
            String e = pick(names, 'e');
            String h = pick(names, 'h');
            switch (random.nextInt(12)) {
                case 0:
                case 1:
                case 2:
                    b.append("hour ").append(1 + random.nextInt(random.nextInt(3) == 0 ? 48 : 3)).append(';');
                    break;
                case 3:
                    b.append(e == null || h == null ? "any;" : "order " + e + blank() + h + ";");
                    break;
                case 4:
                    b.append(h == null ? "any;" : "put " + h + " " + (1 + random.nextInt(99)) + ";");
                    break;
                case 5:
                case 6:
                    b.append("any;");
                    break;
                case 7:
                    b.append(random.nextInt(4) == 0 ? "stop;" : "any ;");
                    break;
                case 8:
                case 9:
                    if (depth < (random.nextInt(30) == 0 ? 4 : 3)) {
                        b.append("when ").append(test(names)).append(';');
                        steps(b, names, depth + 1);
                        b.append("end;");
                    }
                    break;
                default:
                    if (depth < 3) {
                        b.append("loop ").append(1 + random.nextInt(random.nextInt(3) == 0 ? 99 : 5)).append(';');
                        steps(b, names, depth + 1);
                        b.append("end ;");
                    }
                    break;
            }
        }
    }

    private String test(Map<String, String> names) {
        String e = pick(names, 'e');
        String h = pick(names, 'h');
        String w = pick(names, 'w');
        switch (random.nextInt(4)) {
            case 0: return "is " + (h == null ? "nobody" : h) + blank() + random.nextInt(3);
            case 1: return "stands " + (e == null ? "nobody" : e) + " " + pick(names, 'c');
            case 2: return "over " + (h == null ? "nobody" : h);
            default: return "warned " + (w == null ? "nobody" : w) + "<>=".charAt(random.nextInt(3)) + random.nextInt(12);
        }
    }

    /** Puts, takes or changes something, mostly at a place where a TOKEN may begin. */
    String broken(String text) {
        String result = text;
        int times = 1 + random.nextInt(2);
        for (int i = 0; i < times; i++) {
            int at = random.nextInt(result.length() + 1);
            String piece = PIECES[random.nextInt(PIECES.length)];
            switch (random.nextInt(4)) {
                case 0:
                    result = result.substring(0, at) + piece + result.substring(at);
                    break;
                case 1:
                    result = result.substring(0, at) + " " + piece + " " + result.substring(at);
                    break;
                case 2:
                    result = result.substring(0, at) + result.substring(Math.min(result.length(), at + 1 + random.nextInt(4)));
                    break;
                default:
                    result = result.substring(0, at);
                    break;
            }
        }
        return result.length() > 880 ? text : result;
    }
}
