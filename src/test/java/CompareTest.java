import java.util.ArrayList;
import java.util.HashMap;
import java.util.List;
import java.util.Map;
import java.util.Random;
import java.util.Set;
import java.util.TreeSet;
import java.util.function.IntUnaryOperator;

/** Random boards, rules and games, answered by the program and by the plainest form of the terms. */
public final class CompareTest {
    private static final Random RANDOM = new Random(20261119);

    public static void main(String[] args) {
        int boards = args.length > 0 ? Integer.parseInt(args[0]) : 120;
        for (int k = 0; k < boards; k++) {
            compare(k);
        }
        Talk.finish("CompareTest");
    }

    static void compare(int k) {
        Naive naive = board(k % 3 == 0 ? 3 : 6, k % 2 == 0 ? 3 : 6);
        String text = text(naive);
        String[] rules = {rule(9, true), rule(4, true), rule(2, true)};
        WrittenMoves x = Talk.with(text, rules);
        String where = text + " ";
        ground(x, naive, where);
        for (int r = 0; r < rules.length; r++) {
            paths(x, naive, r, rules[r], where + rules[r] + " ");
        }
        for (int one = 0; one < 3; one++) {
            for (int two = 0; two < 3; two++) {
                Talk.due(where + rules[one] + " alike " + rules[two], x.alike(0, one, two),
                    naive.alike(rules[one], rules[two]));
            }
        }
        for (int g = 0; g < 4; g++) {
            game(x, naive, rules, where, g);
        }
        drawn(x, naive, where);
        if (k % 4 == 0) {
            listed(x, naive, rules, where);
        }
        contest(x, naive, where, k);
    }

    static Naive board(int widest, int highest) {
        Naive naive = new Naive();
        naive.width = 2 + RANDOM.nextInt(widest - 1);
        naive.height = 2 + RANDOM.nextInt(highest - 1);
        int fields = naive.width * naive.height;
        for (int k = RANDOM.nextInt(4); k > 0; k--) {
            naive.walls.add(RANDOM.nextInt(fields));
        }
        for (int k = RANDOM.nextInt(6); k > 0; k--) {
            naive.pits.add(RANDOM.nextInt(fields));
        }
        int men = RANDOM.nextInt(7);
        for (int k = 0; k < 20 && naive.men.size() < men; k++) {
            int field = RANDOM.nextInt(fields);
            if (naive.free(field)) {
                naive.men.add(new int[] {RANDOM.nextInt(2), field});
            }
        }
        return naive;
    }

    static String text(Naive naive) {
        StringBuilder text = new StringBuilder("size " + naive.width + " " + naive.height + ";");
        naive.walls.forEach(field -> text.append("wall " + field + ";"));
        if (!naive.pits.isEmpty()) {
            text.append("pit");
            naive.pits.forEach(field -> text.append(" " + field));
            text.append(";");
        }
        naive.men.forEach(man -> text.append("man " + man[0] + " " + man[1] + ";"));
        return text.toString();
    }

    static String rule(int most, boolean quotes) {
        StringBuilder rule = new StringBuilder();
        int length = 1 + RANDOM.nextInt(most);
        int fans = 0;
        for (int k = 0; k < length; k++) {
            char sign = Naive.LETTERS.charAt(RANDOM.nextInt(quotes && rule.indexOf("q") < 0 ? 11 : 10));
            if (sign == 'a') {
                fans++;
            }
            rule.append(fans > 3 && sign == 'a' ? 't' : sign);
        }
        return rule.toString();
    }

    static void ground(WrittenMoves x, Naive naive, String where) {
        Talk.due(where + "width", x.board(0, 0), naive.width);
        Talk.due(where + "height", x.board(0, 1), naive.height);
        Talk.due(where + "men", x.board(0, 2), naive.men.size());
        Talk.due(where + "walls", x.board(0, 3), naive.walls.size());
        Talk.due(where + "pits", x.board(0, 4),
            naive.pits.stream().filter(field -> !naive.walls.contains(field)).count());
        for (int field = -1; field < 38; field++) {
            int due = field < 0 || field >= naive.width * naive.height ? -1 : naive.walls.contains(field) ? 1
                : naive.pits.contains(field) ? 2 : 0;
            for (int man = 0; man < naive.men.size(); man++) {
                due = naive.men.get(man)[1] == field ? 10 + man : due;
            }
            Talk.due(where + "field " + field, x.field(0, field), due);
        }
    }

    static void paths(WrittenMoves x, Naive naive, int r, String rule, String where) {
        for (int man = 0; man < naive.men.size(); man++) {
            long ends = naive.ends(man, rule);
            Talk.due(where + "ends of " + man, x.ends(0, man, r), ends);
            for (int tries = 0; tries < 6; tries++) {
                int field = RANDOM.nextInt(naive.width * naive.height);
                Talk.due(where + "ways of " + man + " to " + field, x.ways(0, man, r, field),
                    naive.ways(man, rule, field));
                List<Integer> first = naive.first(man, rule, field);
                Talk.due(where + "path of " + man + " to " + field, x.path(0, man, r, field, -1),
                    first == null ? -1 : first.size());
                for (int k = 0; first != null && k < first.size(); k++) {
                    Talk.due(where + "path of " + man + " to " + field + " at " + k,
                        x.path(0, man, r, field, k), first.get(k));
                }
            }
        }
    }

    static void game(WrittenMoves x, Naive naive, String[] rules, String where, int number) {
        List<Naive.Move> game = moves(naive);
        StringBuilder text = new StringBuilder();
        for (Naive.Move move : game) {
            text.append("say " + move.rule() + (move.field() < 0 ? ";" : " go " + move.field() + ";"));
        }
        int at = Talk.tell(x, 2, number < 2 ? -1 : number - 2, text.toString());
        String here = where + text + " ";
        Naive.Stand end = new Naive.Stand(naive, 0);
        int stop = Naive.play(end, game, 99);
        Talk.due(here + "stop", x.stop(0, at), stop);
        for (int side = 0; side < 2; side++) {
            int whose = side;
            Talk.due(here + "brave " + side, x.brave(0, at, side),
                end.brave.stream().filter(man -> naive.men.get(man)[0] == whose).count());
        }
        for (int n = 0; n <= game.size(); n++) {
            Naive.Stand stand = new Naive.Stand(naive, 0);
            boolean there = Naive.play(stand, game, n) == n;
            for (int what : new int[] {0, 1, 2, 3, 10, 11, 12, 13, 14, 15, 16, 20, 21, 4, 30, -1}) {
                Talk.due(here + "state " + n + " " + what, x.state(0, at, n, what),
                    there ? state(stand, what) : -2);
            }
            boolean playing = there && !stand.over();
            String quote = n > 0 ? game.get(n - 1).rule() : null;
            for (int r = 0; r < 3; r++) {
                Talk.due(here + "may " + n + " " + rules[r], x.may(0, at, n, r),
                    playing ? stand.ends(rules[r], quote) : -1);
            }
            moveAsked(x, naive, game, at, n, playing ? stand : null, here);
        }
    }

    static void moveAsked(WrittenMoves x, Naive naive, List<Naive.Move> game, int at, int n,
            Naive.Stand stand, String here) {
        String quote = n > 0 ? game.get(n - 1).rule() : null;
        int place = -1;
        int sign = -1;
        boolean loses = false;
        if (Naive.play(new Naive.Stand(naive, 0), game, n + 1) == n + 1) {
            String rule = game.get(n).rule();
            long pits = naive.bitsOf(naive.pits);
            for (int k = 0; k < rule.length() && place < 0; k++) {
                for (int s = 0; s < 10 && place < 0; s++) {
                    String other = rule.substring(0, k) + Naive.LETTERS.charAt(s) + rule.substring(k + 1);
                    long ends = stand.ends(other, quote);
                    if (!other.equals(rule) && ends != 0 && (ends & ~pits) == 0) {
                        place = k;
                        sign = s;
                    }
                }
            }
            loses = game.get(n).field() >= 0 && loses(naive, stand, game.get(n), quote);
        }
        Talk.due(here + "fatal place " + n, x.fatal(0, at, n, false), place);
        Talk.due(here + "fatal sign " + n, x.fatal(0, at, n, true), sign);
        Talk.due(here + "loses " + n, x.loses(0, at, n), loses);
    }

    static boolean loses(Naive naive, Naive.Stand stand, Naive.Move move, String quote) {
        Set<Integer> safe = new TreeSet<>();
        long ends = stand.ends(move.rule(), quote);
        for (int field = 0; field < 36; field++) {
            if ((ends >>> field & 1) != 0 && !naive.pits.contains(field)) {
                Naive.Stand gone = new Naive.Stand(stand);
                gone.make(field);
                Naive.Sight sight = new Naive.Sight(naive, gone.at, 1 - stand.writer, -1);
                boolean beside = false;
                for (int side = 0; side < 4; side++) {
                    int next = sight.next(field, side);
                    beside |= next >= 0 && sight.foe(next);
                }
                if (!beside) {
                    safe.add(field);
                }
            }
        }
        return !safe.isEmpty() && !safe.contains(move.field());
    }

    static int state(Naive.Stand stand, int what) {
        if (what == 0) {
            return stand.writer;
        }
        if (what == 1) {
            return stand.over() ? 1 : 0;
        }
        if (what == 2 || what == 3) {
            return stand.standing(what - 2).size();
        }
        if (what >= 10 && what < 10 + stand.at.length) {
            return stand.at[what - 10];
        }
        return what == 20 || what == 21 ? stand.next(what - 20) : -2;
    }

    /** Mostly MOVES that can be. */
    static List<Naive.Move> moves(Naive naive) {
        List<Naive.Move> game = new ArrayList<>();
        Naive.Stand stand = new Naive.Stand(naive, 0);
        int length = RANDOM.nextInt(12);
        for (int k = 0; k < length; k++) {
            String rule = rule(5, true);
            int field = RANDOM.nextInt(3) == 0 ? -1 : RANDOM.nextInt(36);
            if (!stand.over() && RANDOM.nextInt(14) != 0) {
                long ends = stand.ends(rule, k > 0 ? game.get(k - 1).rule() : null);
                field = -1;
                for (int left = ends == 0 ? 0 : 1 + RANDOM.nextInt(Long.bitCount(ends)); left > 0; left--) {
                    field = Long.numberOfTrailingZeros(ends & -1L << field + 1);
                }
                stand.make(field);
            }
            game.add(new Naive.Move(rule, field));
        }
        return game;
    }

    static void drawn(WrittenMoves x, Naive naive, String where) {
        for (int tries = 0; tries < 3; tries++) {
            int seed = RANDOM.nextInt();
            int moves = 1 + RANDOM.nextInt(30);
            Naive.Stand stand = new Naive.Stand(naive, 0);
            int[] next = {seed};
            int made = 0;
            for (; made < moves && !stand.over(); made++) {
                StringBuilder rule = new StringBuilder();
                for (int left = below(next, 3) + 1; left > 0; left--) {
                    rule.append(Naive.LETTERS.charAt(below(next, 10)));
                }
                long ends = stand.ends(rule.toString(), null);
                int field = -1;
                for (int left = ends == 0 ? 0 : 1 + below(next, Long.bitCount(ends)); left > 0; left--) {
                    field = Long.numberOfTrailingZeros(ends & -1L << field + 1);
                }
                stand.make(field);
            }
            Talk.due(where + "drawn " + seed, x.drawn(0, seed, moves, 30), made);
            for (int what : new int[] {0, 1, 2, 3, 10, 11, 12, 13, 14, 15, 20, 21}) {
                Talk.due(where + "drawn " + seed + " " + moves + " " + what,
                    x.drawn(0, seed, moves, what), state(stand, what));
            }
        }
    }

    static int below(int[] next, int n) {
        next[0] = next[0] * 1103515245 + 12345;
        return (next[0] >>> 16) % n;
    }

    static void listed(WrittenMoves x, Naive naive, String[] rules, String where) {
        List<String> all = Naive.rules(4);
        long pits = naive.bitsOf(naive.pits);
        for (int man = 0; man < Math.min(2, naive.men.size()); man++) {
            int whose = naive.men.get(man)[0];
            long foes = 0;
            for (int[] other : naive.men) {
                foes |= other[0] == whose ? 0 : 1L << other[1];
            }
            Map<Long, String> first = new HashMap<>();
            String doom = "-1";
            String hunt = "-1";
            long reach = 0;
            for (String rule : all) {
                long ends = naive.ends(man, rule);
                reach |= ends;
                first.putIfAbsent(ends, rule);
                doom = doom.equals("-1") && ends != 0 && (ends & ~pits) == 0 ? rule : doom;
                hunt = hunt.equals("-1") && ends != 0 && (ends & ~foes) == 0 ? rule : hunt;
                int n = rule.length();
                if (rule.equals("gggg".substring(0, n))) {
                    Talk.due(where + "meanings " + man + " " + n, x.meanings(0, man, n, false), first.size());
                    Talk.due(where + "reach " + man + " " + n, x.meanings(0, man, n, true), Long.bitCount(reach));
                }
            }
            int who = man;
            same(where + "bind " + man, what -> x.binds(0, who, 0, what), first.getOrDefault(0L, "-1"));
            same(where + "doom " + man, what -> x.binds(0, who, 1, what), doom);
            same(where + "hunt " + man, what -> x.binds(0, who, 2, what), hunt);
            for (int field = 0; field < naive.width * naive.height; field++) {
                int to = field;
                same(where + "drive " + man + " to " + field, what -> x.drive(0, who, to, what),
                    first.getOrDefault(1L << field, "-1"));
            }
            for (int r = 0; r < 3; r++) {
                int by = r;
                same(where + "short " + man + " " + rules[r], what -> x.shorter(0, who, by, what),
                    first.getOrDefault(naive.ends(man, rules[r]), "-1"));
            }
        }
    }

    static void same(String call, IntUnaryOperator answers, String due) {
        Talk.dueWord(call, Talk.word(answers), due);
    }

    static void contest(WrittenMoves x, Naive naive, String where, int k) {
        boolean over = new Naive.Stand(naive, 0).over();
        for (int side = 0; side < 2; side++) {
            for (int n = 1; n <= 2; n++) {
                int soonest = -1;
                for (int d = 1; d <= (n == 2 && k % 6 != 0 ? 2 : 3); d++) {
                    boolean won = !over
                        && Naive.wins(new Naive.Stand(naive, side), side, Naive.rules(n), d, new HashMap<>());
                    soonest = won && soonest < 0 ? d : soonest;
                    String call = where + "wins " + side + " " + n + " " + d;
                    Talk.due(call, x.wins(0, side, n, d, 0), won ? 1 : 0);
                    String best = won ? naive.best(side, n, d) : null;
                    Talk.due(call + " best", x.wins(0, side, n, d, 1), best == null ? -1 : best.length());
                    for (int s = 0; s < 2; s++) {
                        Talk.due(call + " best sign " + s, x.wins(0, side, n, d, 2 + s),
                            best == null || s >= best.length() ? -1 : Naive.LETTERS.indexOf(best.charAt(s)));
                    }
                    if (d == 3) {
                        Talk.due(where + "soonest", x.soonest(0, side, n), soonest);
                    }
                }
            }
        }
    }
}
