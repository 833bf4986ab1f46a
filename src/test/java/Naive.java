import java.util.ArrayList;
import java.util.Arrays;
import java.util.HashMap;
import java.util.List;
import java.util.Map;
import java.util.Set;
import java.util.TreeSet;

/** The document's terms in their plainest form: every PATH is gone by itself. */
final class Naive {
    static final String LETTERS = "neswatxubgq";

    int width = 4;
    int height = 4;
    final Set<Integer> walls = new TreeSet<>();
    final Set<Integer> pits = new TreeSet<>();
    final List<int[]> men = new ArrayList<>();

    record Path(List<Integer> fields, String steps, int way, boolean ended) {
        int last() {
            return fields.get(fields.size() - 1);
        }
    }

    /** Who stands where, for one who goes. */
    record Sight(Naive board, int[] at, int side, int man) {
        boolean foe(int field) {
            return someone(field, 1 - side);
        }

        boolean someone(int field, int whose) {
            for (int k = 0; k < at.length; k++) {
                if (k != man && at[k] == field && board.men.get(k)[0] == whose) {
                    return true;
                }
            }
            return false;
        }

        int next(int field, int toSide) {
            int row = field / board.width + new int[] {-1, 0, 1, 0}[toSide];
            int column = field % board.width + new int[] {0, 1, 0, -1}[toSide];
            if (row < 0 || column < 0 || row >= board.height || column >= board.width) {
                return -1;
            }
            return row * board.width + column;
        }

        Path step(Path path, int toSide) {
            int to = next(path.last(), toSide);
            if (to < 0 || board.walls.contains(to) || someone(to, side)) {
                return null;
            }
            List<Integer> fields = new ArrayList<>(path.fields());
            fields.add(to);
            return new Path(fields, path.steps() + toSide, toSide, foe(to) || board.pits.contains(to));
        }

        List<Path> sign(int sign, Path path, String quote) {
            if (path.ended()) {
                return List.of(path);
            }
            List<Path> all = new ArrayList<>();
            if (sign <= 4) {
                for (int to = 0; to < 4; to++) {
                    if (sign == 4 || sign == to) {
                        Path gone = step(path, to);
                        if (gone != null) {
                            all.add(gone);
                        }
                    }
                }
            } else if (sign == 5) {
                if (path.way() < 0) {
                    return all;
                }
                Path gone = path;
                while (!gone.ended() && step(gone, path.way()) != null) {
                    gone = step(gone, path.way());
                }
                all.add(gone);
            } else if (sign == 8 || sign == 9) {
                boolean beside = false;
                for (int to = 0; to < 4; to++) {
                    beside |= next(path.last(), to) >= 0 && foe(next(path.last(), to));
                }
                if (beside == (sign == 8)) {
                    all.add(path);
                }
            } else if (quote == null) {
                all.add(path);
            } else {
                all.addAll(go(quote, path, null));
            }
            return all;
        }

        List<Path> go(String rule, Path start, String quote) {
            List<Path> paths = List.of(start);
            for (int k = 0; k < rule.length(); k++) {
                int sign = LETTERS.indexOf(rule.charAt(k));
                int ahead = -1;
                if (sign == 6 || sign == 7) {
                    boolean last = k + 1 == rule.length();
                    if (last || rule.charAt(k + 1) == 'x' || rule.charAt(k + 1) == 'u') {
                        continue;
                    }
                    ahead = sign;
                    k++;
                    sign = LETTERS.indexOf(rule.charAt(k));
                }
                for (int time = 0; time < (ahead == 6 ? 2 : 1); time++) {
                    List<Path> further = new ArrayList<>();
                    for (Path path : paths) {
                        List<Path> gone = sign(sign, path, quote);
                        further.addAll(gone.isEmpty() && ahead == 7 ? List.of(path) : gone);
                    }
                    paths = further;
                }
            }
            return paths;
        }

        List<Path> paths(int from, String rule, String quote) {
            return go(rule, new Path(List.of(from), "", -1, false), quote);
        }

        long ends(int from, String rule, String quote) {
            long ends = 0;
            for (Path path : paths(from, rule, quote)) {
                ends |= 1L << path.last();
            }
            return ends;
        }
    }

    int[] places() {
        return men.stream().mapToInt(man -> man[1]).toArray();
    }

    Sight sight(int man) {
        return new Sight(this, places(), men.get(man)[0], man);
    }

    long ends(int man, String rule) {
        return sight(man).ends(men.get(man)[1], rule, null);
    }

    int ways(int man, String rule, int field) {
        Set<String> unlike = new TreeSet<>();
        for (Path path : sight(man).paths(men.get(man)[1], rule, null)) {
            if (path.last() == field) {
                unlike.add("." + path.steps());
            }
        }
        return unlike.size();
    }

    List<Integer> first(int man, String rule, int field) {
        Path best = null;
        for (Path path : sight(man).paths(men.get(man)[1], rule, null)) {
            if (path.last() == field && (best == null || path.steps().length() < best.steps().length()
                    || path.steps().length() == best.steps().length()
                    && path.steps().compareTo(best.steps()) < 0)) {
                best = path;
            }
        }
        return best == null ? null : best.fields();
    }

    boolean free(int field) {
        return !walls.contains(field) && !pits.contains(field)
            && men.stream().noneMatch(man -> man[1] == field);
    }

    boolean alike(String one, String two) {
        Sight further = new Sight(this, places(), 0, -1);
        for (int field = 0; field < width * height; field++) {
            if (free(field) && further.ends(field, one, null) != further.ends(field, two, null)) {
                return false;
            }
        }
        return true;
    }

    /** All RULES of at most so many SIGNS, in their order. */
    static List<String> rules(int most) {
        List<String> all = new ArrayList<>();
        List<String> last = List.of("");
        for (int length = 1; length <= most; length++) {
            List<String> longer = new ArrayList<>();
            for (String rule : last) {
                for (int sign = 0; sign < 10; sign++) {
                    longer.add(rule + LETTERS.charAt(sign));
                }
            }
            all.addAll(longer);
            last = longer;
        }
        return all;
    }

    long bitsOf(Set<Integer> fields) {
        long bits = 0;
        for (int field : fields) {
            bits |= 1L << field;
        }
        return bits;
    }

    /** How it stands in a GAME; queues tell who is NEXT. */
    static final class Stand {
        final Naive board;
        final int[] at;
        final int[] went = {-1, -1};
        final Set<Integer> brave = new TreeSet<>();
        int writer;

        Stand(Naive board, int writer) {
            this.board = board;
            this.at = board.places();
            this.writer = writer;
        }

        Stand(Stand other) {
            board = other.board;
            at = other.at.clone();
            went[0] = other.went[0];
            went[1] = other.went[1];
            writer = other.writer;
            brave.addAll(other.brave);
        }

        List<Integer> standing(int side) {
            List<Integer> all = new ArrayList<>();
            for (int k = 0; k < at.length; k++) {
                if (at[k] >= 0 && board.men.get(k)[0] == side) {
                    all.add(k);
                }
            }
            return all;
        }

        boolean over() {
            return standing(0).isEmpty() || standing(1).isEmpty();
        }

        int next(int side) {
            List<Integer> all = standing(side);
            for (int man : all) {
                if (man > went[side]) {
                    return man;
                }
            }
            return all.isEmpty() ? -1 : all.get(0);
        }

        long ends(String rule, String quote) {
            int man = next(1 - writer);
            return new Sight(board, at, 1 - writer, man).ends(at[man], rule, quote);
        }

        void make(int field) {
            if (field < 0) {
                at[next(writer)] = -1;
            } else {
                int man = next(1 - writer);
                for (int k = 0; k < at.length; k++) {
                    if (at[k] == field && board.men.get(k)[0] == writer) {
                        at[k] = -1;
                        brave.add(man);
                    }
                }
                at[man] = board.pits.contains(field) ? -1 : field;
                went[1 - writer] = man;
            }
            writer = 1 - writer;
        }

        String key(int left) {
            return Arrays.toString(at) + Arrays.toString(went) + writer + left;
        }
    }

    record Move(String rule, int field) {
    }

    /** The STATE behind all first MOVES that can be, at most so many; how many these are. */
    static int play(Stand stand, List<Move> game, int most) {
        int made = 0;
        while (made < most && made < game.size() && !stand.over()) {
            Move move = game.get(made);
            long ends = stand.ends(move.rule(), made > 0 ? game.get(made - 1).rule() : null);
            boolean can = move.field() < 0 ? ends == 0 : (ends >>> move.field() & 1) != 0;
            if (!can) {
                break;
            }
            stand.make(move.field());
            made++;
        }
        return made;
    }

    static boolean wins(Stand stand, int side, List<String> rules, int left, Map<String, Boolean> known) {
        if (stand.standing(1 - side).isEmpty()) {
            return true;
        }
        if (left == 0 || stand.standing(side).isEmpty()) {
            return false;
        }
        String key = stand.key(left);
        Boolean before = known.get(key);
        if (before != null) {
            return before;
        }
        boolean writes = stand.writer == side;
        boolean all = !writes;
        for (String rule : rules) {
            if (winsBy(stand, side, rule, rules, left, known) == writes) {
                all = writes;
                break;
            }
        }
        known.put(key, all);
        return all;
    }

    static boolean winsBy(Stand stand, int side, String rule, List<String> rules, int left,
            Map<String, Boolean> known) {
        long ends = stand.ends(rule, null);
        boolean writes = stand.writer == side;
        if (ends == 0) {
            Stand gone = new Stand(stand);
            gone.make(-1);
            return wins(gone, side, rules, left - 1, known);
        }
        for (int field = 0; field < 36; field++) {
            if ((ends >>> field & 1) != 0) {
                Stand gone = new Stand(stand);
                gone.make(field);
                if (wins(gone, side, rules, left - 1, known) != writes) {
                    return !writes;
                }
            }
        }
        return writes;
    }

    String best(int side, int n, int d) {
        Map<String, Boolean> known = new HashMap<>();
        Stand stand = new Stand(this, side);
        List<String> rules = rules(n);
        for (String rule : rules) {
            if (winsBy(stand, side, rule, rules, d, known)) {
                return rule;
            }
        }
        return null;
    }
}
