import java.util.ArrayList;
import java.util.List;
import java.util.Random;
import java.util.TreeSet;
import java.util.regex.Matcher;
import java.util.regex.Pattern;

/** Random texts, most of them spoilt somewhere; faults are found by patterns over tokens. */
public final class ParseTest {
    private static final Random RANDOM = new Random(7);
    private static final Pattern TOKEN = Pattern.compile("([a-z]+)|([0-9]+)|(;)|([\\n ]+)|([^a-z0-9;\\n ])");
    private static final String[] FORMS = {"(?:SNN;|[WP]N+;|MNN;)*", "R", "(?:YR(?:GN)?;)*"};
    private static final String[] BITS = {"size", "wall", "pit", "man", "say", "go", "n", "et", "uq", "qq",
        "neswatxub", "neswatxubg", "k", "0", "1", "2", "3", "4", "5", "6", "7", "16", "35", "36", "007", "99",
        ";", ";", ";", ";", " ", " ", " ", "\n", "\t", "A", "-", "\u00e9", "\u0000"};

    public static void main(String[] args) {
        for (int k = 0; k < 60000; k++) {
            int sort = RANDOM.nextInt(3);
            String text = spoilt(text(sort));
            if (text.length() <= 580) {
                read(sort, text);
            }
        }
        Talk.finish("ParseTest");
    }

    static void read(int sort, String text) {
        WrittenMoves x = new WrittenMoves();
        int[] fault = fault(sort, text);
        String call = sort + " \"" + text + "\" ";
        Talk.due(call + "text", Talk.tell(x, sort, -1, text), fault[0] == 0 ? 0 : -1);
        Talk.due(call + "fault", x.fault(0), fault[0]);
        Talk.due(call + "place", x.fault(1), fault[1]);
        Talk.due(call + "count", x.count(sort), fault[0] == 0 ? 1 : 0);
        Talk.due(call + "tape", x.feed(0, 0, 0, 0, 0), 20);
    }

    static String text(int sort) {
        StringBuilder text = new StringBuilder();
        if (sort == 1) {
            return CompareTest.rule(9, true);
        }
        int lines = RANDOM.nextInt(20) == 0 ? 29 + RANDOM.nextInt(4) : RANDOM.nextInt(8);
        for (int k = 0; k < lines; k++) {
            if (sort == 2) {
                text.append("say ").append(CompareTest.rule(4, true));
                text.append(RANDOM.nextBoolean() ? " go " + number(36) + ";" : ";");
            } else {
                int kind = RANDOM.nextInt(6);
                text.append(kind == 0 ? "size " + (2 + number(5)) + " " + (2 + number(5))
                    : kind == 1 ? "wall " + number(16) : kind == 2 ? "pit " + number(16) + " " + number(36)
                    : "man " + number(2) + " " + number(25)).append(";");
            }
            text.append(RANDOM.nextInt(4) == 0 ? "\n" : "");
        }
        return text.toString();
    }

    static int number(int below) {
        return RANDOM.nextInt(60) == 0 ? RANDOM.nextInt(120) : RANDOM.nextInt(below);
    }

    static String spoilt(String text) {
        StringBuilder changed = new StringBuilder(text);
        for (int times = RANDOM.nextInt(3); times > 0; times--) {
            int at = RANDOM.nextInt(changed.length() + 1);
            String bit = BITS[RANDOM.nextInt(BITS.length)];
            int kind = RANDOM.nextInt(4);
            if (kind == 0) {
                changed.insert(at, bit);
            } else if (kind == 1) {
                changed.delete(at, Math.min(changed.length(), at + 1 + RANDOM.nextInt(3)));
            } else if (kind == 2) {
                changed.setLength(at);
            } else {
                changed.append(bit);
            }
        }
        return changed.toString();
    }

    static boolean isRule(String word) {
        return word.matches("[neswatxubgq]{1,9}") && word.indexOf('q') == word.lastIndexOf('q');
    }

    static char kind(int sort, String token, boolean ruleDue) {
        if (token.matches("[0-9]{1,2}")) {
            return 'N';
        }
        if (token.equals(";")) {
            return ';';
        }
        if (sort == 0) {
            return token.equals("size") ? 'S' : token.equals("wall") ? 'W' : token.equals("pit") ? 'P'
                : token.equals("man") ? 'M' : '?';
        }
        if (ruleDue) {
            return isRule(token) ? 'R' : '?';
        }
        return sort == 2 && token.equals("say") ? 'Y' : sort == 2 && token.equals("go") ? 'G' : '?';
    }

    static int[] fault(int sort, String text) {
        Pattern form = Pattern.compile(FORMS[sort]);
        StringBuilder kinds = new StringBuilder();
        List<String> tokens = new ArrayList<>();
        List<Integer> places = new ArrayList<>();
        Matcher matcher = TOKEN.matcher(text);
        while (matcher.find()) {
            if (matcher.group(4) != null) {
                continue;
            }
            boolean ruleDue = sort == 1 && kinds.length() == 0 || kinds.toString().endsWith("Y");
            kinds.append(kind(sort, matcher.group(), ruleDue));
            Matcher ahead = form.matcher(kinds);
            if (!ahead.matches() && !ahead.hitEnd()) {
                return new int[] {1, matcher.start()};
            }
            tokens.add(matcher.group());
            places.add(matcher.start());
        }
        if (!form.matcher(kinds).matches()) {
            return new int[] {1, text.length()};
        }
        int[] found = numbers(kinds.toString(), tokens, places);
        return found[0] == 0 && sort == 0 ? ground(kinds.toString(), tokens, text.length()) : found;
    }

    static int[] numbers(String kinds, List<String> tokens, List<Integer> places) {
        int lines = 0;
        for (int k = 0; k < tokens.size(); k++) {
            char kind = kinds.charAt(k);
            if (kind == 'M' || kind == 'Y') {
                lines++;
                if (lines > (kind == 'M' ? 6 : 30)) {
                    return new int[] {3, places.get(k)};
                }
            }
            if (kind == 'N') {
                int value = Integer.parseInt(tokens.get(k));
                int line = Math.max(0, kinds.lastIndexOf(';', k) + 1);
                boolean size = kinds.charAt(line) == 'S';
                boolean side = kinds.charAt(line) == 'M' && k == line + 1;
                if (size ? value < 2 || value > 6 : value > (side ? 1 : 35)) {
                    return new int[] {2, places.get(k)};
                }
            }
        }
        return new int[] {0, -1};
    }

    static int[] ground(String kinds, List<String> tokens, int end) {
        int width = 4;
        int height = 4;
        TreeSet<Integer> told = new TreeSet<>();
        TreeSet<Integer> blocked = new TreeSet<>();
        List<Integer> men = new ArrayList<>();
        for (int k = 0; k < tokens.size(); k++) {
            int line = Math.max(0, kinds.lastIndexOf(';', k) + 1);
            if (kinds.charAt(k) == 'S') {
                width = Integer.parseInt(tokens.get(k + 1));
                height = Integer.parseInt(tokens.get(k + 2));
            } else if (kinds.charAt(k) == 'M') {
                men.add(Integer.parseInt(tokens.get(k + 2)));
            } else if (kinds.charAt(k) == 'N' && (kinds.charAt(line) == 'W' || kinds.charAt(line) == 'P')) {
                blocked.add(Integer.parseInt(tokens.get(k)));
            }
        }
        told.addAll(blocked);
        told.addAll(men);
        boolean good = told.isEmpty() || told.last() < width * height;
        for (int man : men) {
            good &= blocked.add(man);
        }
        return good ? new int[] {0, -1} : new int[] {4, end};
    }
}
