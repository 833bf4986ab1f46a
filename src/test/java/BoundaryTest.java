import java.util.function.LongSupplier;

/** The document read sentence by sentence: each one that names a boundary has a test of its own here. */
public final class BoundaryTest {
    private static final int NONE = -1;
    private static final int[] OUTSIDE = {Integer.MIN_VALUE, -65, -64, -32, -3, -2, 37, 64, 65, 1 << 16, Integer.MAX_VALUE};
    private static final String[] SIDE_WORDS = {"n", "e", "s", "w"};

    public static void main(String[] args) {
        boards();
        rules();
        games();
        tape();
        tokens();
        forms();
        laterOnes();
        faultsInOrder();
        numbersThatCannotBe();
        tooMany();
        fieldsNotThere();
        howManyTexts();
        steps();
        takesAndFalls();
        onAndOn();
        twiceAndMaybe();
        besideOrNot();
        quotes();
        endsAndWays();
        firstPaths();
        turns();
        nextMan();
        gone();
        cannotBe();
        stops();
        foundRules();
        alikeAndMeanings();
        winning();
        fatalMoves();
        losingMoves();
        braveMen();
        drawnGames();
        newObject();
        feeding();
        ending();
        telling();
        eachOfSeveral();
        noneSuch();
        otherWhats();
        images();
        nothingChanges();
        Talk.finish("BoundaryTest");
    }

    private static void due(String call, long got, long want) {
        Talk.due(call, got, want);
    }

    private static void due(String call, boolean got, boolean want) {
        Talk.due(call, got, want);
    }

    private static long bits(int... fields) {
        return Talk.bits(fields);
    }

    private static long ends(String board, int man, String rule) {
        return Talk.with(board, rule).ends(0, man, 0);
    }

    private static void fault(int sort, String text, int fault, int place) {
        PromiseTest.fault(sort, text, fault, place);
    }

    private static WrittenMoves playing(String board, String game, String... rules) {
        return PromiseTest.playing(board, game, rules);
    }

    private static String times(int n, String text) {
        return text.repeat(n);
    }

    // Terms 1

    /** W columns and H rows, 2 .. 6 (4 and 4 at first), numbered row by row, the first being the northern one. */
    static void boards() {
        for (int width = 0; width < 9; width++) {
            for (int height = 0; height < 9; height++) {
                String text = "size " + width + " " + height + ";";
                boolean wide = width >= 2 && width <= 6;
                boolean high = height >= 2 && height <= 6;
                fault(0, text, wide && high ? 0 : 2, wide && high ? NONE : wide ? 7 : 5);
                if (wide && high) {
                    numbered(text, width, height);
                }
            }
        }
        WrittenMoves x = Talk.with("");
        due("W at first", x.board(0, 0), 4);
        due("H at first", x.board(0, 1), 4);
        due("last FIELD at first", x.field(0, 15), 0);
        due("behind it", x.field(0, 16), NONE);
    }

    private static void numbered(String size, int width, int height) {
        WrittenMoves empty = Talk.with(size);
        due(size + " W", empty.board(0, 0), width);
        due(size + " H", empty.board(0, 1), height);
        due(size + " last", empty.field(0, width * height - 1), 0);
        due(size + " behind", empty.field(0, width * height), NONE);
        for (int field = 0; field < width * height; field++) {
            WrittenMoves x = Talk.with(size + "man 0 " + field + ";", "n");
            int row = field / width;
            int column = field % width;
            long[] due = {row > 0 ? bits(field - width) : 0, column + 1 < width ? bits(field + 1) : 0,
                row + 1 < height ? bits(field + width) : 0, column > 0 ? bits(field - 1) : 0};
            for (int side = 0; side < 4; side++) {
                due("rule", Talk.tell(x, 1, 0, SIDE_WORDS[side]), 0);
                due(size + " from " + field + " " + SIDE_WORDS[side], x.ends(0, 0, 0), due[side]);
            }
            due("rule", Talk.tell(x, 1, 0, "a"), 0);
            due(size + " from " + field + " a", x.ends(0, 0, 0), due[0] | due[1] | due[2] | due[3]);
        }
    }

    /** 1 to 9 SIGNS: n, e, s, w (0 to 3), a, t, x, u, b, g, q; q once at most. */
    static void rules() {
        for (int length = 1; length <= 12; length++) {
            fault(1, times(length, "n"), length <= 9 ? 0 : 1, length <= 9 ? NONE : 0);
            fault(2, "say " + times(length, "n") + ";", length <= 9 ? 0 : 1, length <= 9 ? NONE : 4);
        }
        for (char letter = 'a'; letter <= 'z'; letter++) {
            int sign = "neswatxubgq".indexOf(letter);
            fault(1, "" + letter, sign < 0 ? 1 : 0, sign < 0 ? 0 : NONE);
            fault(1, "n" + letter + "s", sign < 0 ? 1 : 0, sign < 0 ? 0 : NONE);
            fault(1, letter + "nnnnnnnn", sign < 0 ? 1 : 0, sign < 0 ? 0 : NONE);
            fault(1, "nnnnnnnn" + letter, sign < 0 ? 1 : 0, sign < 0 ? 0 : NONE);
            fault(2, "say n;say " + letter + ";", sign < 0 ? 1 : 0, sign < 0 ? 10 : NONE);
            if (sign >= 0) {
                WrittenMoves x = Talk.with("", "n" + letter);
                due("SIGN " + letter, x.rule(0, 1), sign);
                due("how many", x.rule(0, NONE), 2);
            }
        }
        fault(1, "q", 0, NONE);
        fault(1, "nnnnnnnnq", 0, NONE);
        fault(1, "nqnq", 1, 0);
        fault(1, "qnnnnnnnq", 1, 0);
        fault(2, "say q;say q;", 0, NONE);
        fault(2, "say qnq;", 1, 4);
        fault(1, "", 1, 0);
    }

    /** A GAME has MOVES, at most 30: a RULE, a FIELD, or none. */
    static void games() {
        WrittenMoves x = new WrittenMoves();
        due("no MOVE", Talk.tell(x, 2, NONE, ""), 0);
        due("how many", x.move(0, NONE, 0), 0);
        due("first of none", x.move(0, 0, 0), -2);
        due("30 MOVES", Talk.tell(x, 2, 0, times(29, "say n;") + "say sq go 35;"), 0);
        due("how many", x.move(0, NONE, 0), 30);
        due("the first", x.move(0, 0, 0), NONE);
        due("the last", x.move(0, 29, 0), 35);
        due("its SIGNS", x.move(0, 29, 1), 2);
        due("its q", x.move(0, 29, 11), 10);
        due("behind it", x.move(0, 30, 0), -2);
        due("a shorter one in its place", Talk.tell(x, 2, 0, "say n go 0;"), 0);
        due("how many", x.move(0, NONE, 0), 1);
        due("FIELD 0", x.move(0, 0, 0), 0);
        due("behind it", x.move(0, 1, 0), -2);
    }

    /** THE TAPE has at most 600 bytes. */
    static void tape() {
        fault(0, times(591, " ") + "size 6 2;", 0, NONE);
        fault(0, times(592, " ") + "size 6 2", 1, 600);
        fault(0, times(599, " ") + "x", 1, 599);
        fault(1, times(591, "\n") + "nnnnnnnnn", 0, NONE);
        fault(1, times(590, "\n") + "nnnnnnnnnn", 1, 590);
        fault(2, times(60, "say n;\n\n\n\n").substring(0, 600), 3, 300);
        WrittenMoves x = Talk.with(times(591, " ") + "size 6 2;");
        due("600 bytes read", x.board(0, 0), 6);
    }

    /** Blanks (10, 32) between; words; NUMBERS, 1 or 2 digits; ; one byte: each of all bytes. */
    static void tokens() {
        for (int sign = 0; sign < 256; sign++) {
            String one = "" + (char) sign;
            boolean blank = sign == 10 || sign == 32;
            boolean digit = sign >= '0' && sign <= '9';
            fault(0, one, blank ? 0 : 1, blank ? NONE : 0);
            fault(2, one, blank ? 0 : 1, blank ? NONE : 0);
            boolean isSign = sign < 128 && "neswatxubgq".indexOf(sign) >= 0;
            fault(1, one, isSign ? 0 : 1, isSign ? NONE : blank ? 1 : 0);
            fault(0, "size 4 4" + one, sign == ';' ? 0 : 1, sign == ';' ? NONE : blank || digit ? 9 : 8);
            fault(0, "size 4" + one + "4;", blank ? 0 : 1, blank ? NONE : digit ? 5 : 6);
        }
        fault(0, "wall 0;", 0, NONE);
        fault(0, "wall 00;", 0, NONE);
        fault(0, "wall 000;", 1, 5);
        fault(0, "wall 1 000;", 1, 7);
        fault(0, "wall 0000;", 1, 5);
        fault(0, "size 44;", 1, 7);
        fault(0, "wall 0 0;", 0, NONE);
        fault(0, "wall1;pit2;man1 3;", 0, NONE);
        fault(2, "say n go3;", 0, NONE);
        fault(2, "say ngo 3;", 1, 4);
        fault(2, "say\nn\n\ngo\n3\n;\n", 0, NONE);
        fault(1, " n e", 1, 3);
        fault(1, "ne\n \n", 0, NONE);
    }

    /** What each text goes on with, token by token: another one is the first with which none goes on. */
    static void forms() {
        String[] others = {"size", "wall", "man", "say", "go", "7", ";", ""};
        goesOn(0, "", others, "size", "wall", "man", "");
        goesOn(0, "size ", others, "7");
        goesOn(0, "size 4 ", others, "7");
        goesOn(0, "size 4 4 ", others, ";");
        goesOn(0, "wall ", others, "7");
        goesOn(0, "pit ", others, "7");
        goesOn(0, "wall 7 ", others, "7", ";");
        goesOn(0, "pit 7 7 ", others, "7", ";");
        goesOn(0, "man ", others, "7");
        goesOn(0, "man 1 ", others, "7");
        goesOn(0, "man 1 7 ", others, ";");
        goesOn(0, "man 1 8 ; ", others, "size", "wall", "man", "");
        goesOn(2, "", others, "say", "");
        goesOn(2, "say ", others);
        goesOn(2, "say n ", others, "go", ";");
        goesOn(2, "say n go ", others, "7");
        goesOn(2, "say n go 7 ", others, ";");
        goesOn(2, "say n go 7 ; ", others, "say", "");
        goesOn(1, "", others);
        goesOn(1, "n ", others, "");
        fault(2, "say wa;say g go 7;say wat;say nu;", 0, NONE);
        fault(2, "say say;", 1, 4);
        fault(0, "pits 1;", 1, 0);
        fault(0, "pi 1;", 1, 0);
        fault(0, "walls 1;", 1, 0);
        fault(0, "men 1 1;", 1, 0);
        fault(0, "mam 1 1;", 1, 0);
        fault(2, "sax n;", 1, 0);
        fault(2, "say n to 1;", 1, 6);
        fault(2, "say n goo 1;", 1, 6);
    }

    private static void goesOn(int sort, String before, String[] others, String... good) {
        for (String other : others) {
            WrittenMoves x = new WrittenMoves();
            boolean goes = false;
            for (String one : good) {
                goes |= one.equals(other);
            }
            // A text that goes on there has its end, or a mark that is no token, further on.
            String text = before + other + (other.isEmpty() ? "" : " ?");
            due("text", Talk.tell(x, sort, NONE, text), other.isEmpty() && goes ? 0 : NONE);
            int place = before.length() + (goes ? other.length() + 1 : 0);
            due("place of " + sort + " '" + text + "'", x.fault(1), other.isEmpty() && goes ? NONE : place);
            due("fault of " + sort + " '" + text + "'", x.fault(0), other.isEmpty() && goes ? 0 : 1);
        }
    }

    /** Later ones strike (size), but WALLS, PITS, MEN, MOVES, which are further ones. */
    static void laterOnes() {
        WrittenMoves x = Talk.with("size 2 6;wall 0;pit 1;man 1 2;size 6 6;size 3 5;wall 4;pit 5 6;man 0 7;");
        int[] due = {3, 5, 2, 2, 3};
        for (int what = 0; what < 5; what++) {
            due("later ones " + what, x.board(0, what), due[what]);
        }
        due("first man's SIDE", x.man(0, 0, 0), 1);
        due("first man's FIELD", x.man(0, 0, 1), 2);
        due("second man's SIDE", x.man(0, 1, 0), 0);
        due("second man's FIELD", x.man(0, 1, 1), 7);
        fault(0, "size 2 2;man 0 35;wall 34;pit 33;size 6 6;", 0, NONE);
        fault(0, "size 6 6;man 0 35;size 2 2;", 4, 27);
        due("in its place the first size is 4 and 4 again", Talk.tell(x, 0, 0, "man 1 15;"), 0);
        int[] plain = {4, 4, 1, 0, 0};
        for (int what = 0; what < 5; what++) {
            due("in its place " + what, x.board(0, what), plain[what]);
        }
    }

    /** FAULT 1 of all; if there is none, 2 and 3, the first by place; if there is none of these, 4. */
    static void faultsInOrder() {
        fault(0, "wall 36;size 1 1;man 0 0 0;", 1, 25);
        fault(0, "wall 36;size 1 1;man 0 0", 1, 24);
        fault(0, "man 0 0;man 0 0;wall 36;", 2, 21);
        fault(0, "size 7 7;wall 36;", 2, 5);
        fault(0, "size 2 7;wall 36;", 2, 7);
        String six = "man 0 0;man 0 1;man 0 2;man 0 3;man 0 4;man 0 5;";
        fault(0, six + "man 0 6;wall 36;", 3, 48);
        fault(0, "wall 36;" + six + "man 0 6;", 2, 5);
        fault(0, six + "man 9 99;", 3, 48);
        fault(0, six + "man 0 5;", 3, 48);
        fault(0, six + "man 0 5;man", 1, 59);
        fault(0, six + "man", 1, 51);
        fault(0, six + "wall 5;", 4, 55);
        fault(2, times(30, "say n;") + "say n go 36;", 3, 180);
        fault(2, "say n go 36;" + times(30, "say n;"), 2, 9);
        fault(2, times(30, "say n;") + "say n go", 1, 188);
        fault(2, times(30, "say n;") + "say n go 36;k", 1, 192);
        // A line with such a NUMBER tells its man, its MOVE all the same; a size with one is no size.
        fault(0, "man 2 36;" + six, 2, 4);
        fault(0, "man 0 36;" + six, 2, 6);
    }

    /** 2: a NUMBER that can't be: FIELDS are 0 .. 35, a SIDE 0 or 1. */
    static void numbersThatCannotBe() {
        for (int number = 0; number < 100; number++) {
            boolean isField = number <= 35;
            boolean isSide = number <= 1;
            fault(0, "size 6 6;wall " + number + ";", isField ? 0 : 2, isField ? NONE : 14);
            fault(0, "size 6 6;pit 1 " + number + ";", isField ? 0 : 2, isField ? NONE : 15);
            fault(0, "size 6 6;man 1 " + number + ";", isField ? 0 : 2, isField ? NONE : 15);
            fault(0, "man " + number + " 0;", isSide ? 0 : 2, isSide ? NONE : 4);
            fault(2, "say n go " + number + ";", isField ? 0 : 2, isField ? NONE : 9);
        }
    }

    /** 3: a 7th man, a 31st MOVE, at its first token. */
    static void tooMany() {
        for (int men = 0; men < 10; men++) {
            StringBuilder text = new StringBuilder();
            for (int man = 0; man < men; man++) {
                text.append("man 1 ").append(man).append(";\n");
            }
            fault(0, text.toString(), men <= 6 ? 0 : 3, men <= 6 ? NONE : 54);
        }
        for (int moves = 28; moves < 34; moves++) {
            fault(2, times(moves, "say n;\n"), moves <= 30 ? 0 : 3, moves <= 30 ? NONE : 210);
        }
    }

    /** 4: of a BOARD a FIELD that was told of and is not there, or a man on a WALL, a PIT, another man. */
    static void fieldsNotThere() {
        for (String line : new String[] {"wall 5", "pit 5", "man 0 5", "man 1 5"}) {
            fault(0, "size 3 2;" + line + ";", 0, NONE);
            fault(0, "size 2 3;" + line + ";", 0, NONE);
            fault(0, "size 2 2;" + line + ";", 4, line.length() + 10);
            fault(0, line + ";\n size 2 2; ", 4, line.length() + 13);
            fault(0, "size 6 6;" + line.substring(0, line.length() - 1) + "35;", 0, NONE);
            fault(0, "size 6 5;" + line.substring(0, line.length() - 1) + "30;", 4, line.length() + 11);
            fault(0, "size 5 6;" + line.substring(0, line.length() - 1) + "30;", 4, line.length() + 11);
        }
        for (String on : new String[] {"wall 3;", "pit 3;", "man 0 3;", "man 1 3;", "wall 1 3;", "pit 3 1;"}) {
            fault(0, "man 0 3;" + on, 4, 8 + on.length());
            fault(0, on + "man 0 3;", 4, 8 + on.length());
            fault(0, on + "man 1 2;", 0, NONE);
        }
        fault(0, "wall 3;pit 3;wall 3;pit 3;", 0, NONE);
        fault(0, "wall 3;pit 3;man 0 3;", 4, 21);
        // A GAME is on no BOARD when it is told.
        fault(2, "say n go 35;", 0, NONE);
    }

    /** BOARDS, at most 2 (sort 0), RULES, at most 3 (1), GAMES, at most 2 (2), from 0 on. */
    static void howManyTexts() {
        int[] most = {2, 3, 2};
        String[][] texts = {{"size 2 3;", "size 3 4;"}, {"e", "ss", "www"}, {"say n;", "say n;say s;"}};
        WrittenMoves x = new WrittenMoves();
        for (int sort = 0; sort < 3; sort++) {
            for (int k = 0; k < most[sort]; k++) {
                due("count " + sort, x.count(sort), k);
                due("behind the last of " + sort, Talk.tell(x, sort, k, texts[sort][k]), -2);
                due("further one of " + sort, Talk.tell(x, sort, NONE, texts[sort][k]), k);
            }
            due("one more of " + sort, Talk.tell(x, sort, NONE, texts[sort][0]), -2);
            due("behind the last of " + sort, Talk.tell(x, sort, most[sort], texts[sort][0]), -2);
            due("count " + sort, x.count(sort), most[sort]);
        }
        for (int k = 0; k < 2; k++) {
            due("BOARD " + k, x.board(k, 0), 2 + k);
            due("GAME " + k, x.move(k, NONE, 0), 1 + k);
        }
        for (int k = 0; k < 3; k++) {
            due("RULE " + k, x.rule(k, NONE), 1 + k);
            due("RULE " + k, x.rule(k, 0), 1 + k);
        }
        due("in the place of the first", Talk.tell(x, 0, 0, "size 6 6;"), 0);
        due("the second stays", x.board(1, 0), 3);
        due("in the place of the last", Talk.tell(x, 1, 2, "nn"), 2);
        due("the one ahead stays", x.rule(1, 0), 2);
        due("a FAULT in its place", Talk.tell(x, 2, 1, "say n;say"), NONE);
        due("it stays", x.move(1, NONE, 0), 2);
    }

    // Terms 2

    /** A STEP: to the FIELD next to it there, if there is one, no WALL, no man of his own SIDE (but himself). */
    static void steps() {
        int[] next = {1, 5, 7, 3};
        for (int side = 0; side < 4; side++) {
            String word = SIDE_WORDS[side];
            String back = SIDE_WORDS[(side + 2) % 4];
            String board = "size 3 3;man 0 4;";
            due(word + " free", ends(board, 0, word), bits(next[side]));
            due(word + " WALL", ends(board + "wall " + next[side] + ";", 0, word), 0);
            due(word + " own SIDE", ends(board + "man 0 " + next[side] + ";", 0, word), 0);
            due(word + " other SIDE", ends(board + "man 1 " + next[side] + ";", 0, word), bits(next[side]));
            due(word + " PIT", ends(board + "pit " + next[side] + ";", 0, word), bits(next[side]));
            due(word + " no FIELD", ends(board, 0, word + word), 0);
            due(word + " back to himself", ends(board, 0, word + back), bits(4));
            due(word + " by himself to beyond", ends(board, 0, word + back + back), bits(next[(side + 2) % 4]));
            due(word + " what can't be has no END", ends(board, 0, word + word + back), 0);
        }
        due("a of SIDE 1, too", ends("size 3 3;man 0 1;man 1 4;man 1 5;wall 7;pit 3;", 1, "a"), bits(1, 3));
        due("a, none can be", ends("size 2 2;man 0 0;man 0 1;wall 2;", 0, "a"), 0);
        due("a, all STEPS of it", ends("size 3 3;man 0 4;", 0, "aa"), bits(0, 2, 4, 6, 8));
    }

    /** On one of the other SIDE he TAKES him, in a PIT he FALLS: the PATH ENDS there, whatever SIGNS are left. */
    static void takesAndFalls() {
        for (String there : new String[] {"man 1 1;", "pit 1;"}) {
            String board = "size 6 2;man 0 0;" + there;
            due("ends there " + there, ends(board, 0, "ee"), bits(1));
            due("whatever is left " + there, ends(board, 0, "ennnnnnnn"), bits(1));
            due("t, b, g left " + there, ends(board, 0, "etbgnttt"), bits(1));
            due("the first of two " + there, ends(board + "man 1 2;pit 3;", 0, "xe"), bits(1));
            due("behind other STEPS " + there, ends("size 6 2;man 0 6;pit 9;" + there, 0, "net"), bits(1));
            due("others go on " + there, ends(board, 0, "as"), bits(1));
            due("others go on " + there, ends(board, 0, "ae"), bits(1, 7));
        }
        due("t TAKES the first", ends("size 6 2;man 0 0;man 1 2;man 1 4;", 0, "et"), bits(2));
        due("t FALLS in the first", ends("size 6 2;man 0 0;pit 2;pit 4;man 1 5;", 0, "et"), bits(2));
        due("x TAKES but once", ends("size 6 2;man 0 0;man 1 1;man 1 2;", 0, "xe"), bits(1));
        due("on his own FIELD he TAKES none", ends("size 2 2;man 0 0;man 1 3;", 0, "ew"), bits(0));
    }

    /** t: STEPS by WAY till there is none more (as many as can be; none is enough); without WAY it can't be. */
    static void onAndOn() {
        String board = "size 6 6;man 0 14;";
        long[] due = {bits(2), bits(17), bits(32), bits(12)};
        for (int side = 0; side < 4; side++) {
            String word = SIDE_WORDS[side];
            due(word + "t", ends(board, 0, word + "t"), due[side]);
            due(word + "tt, none is enough", ends(board, 0, word + "tt"), due[side]);
            due(word + "xt", ends(board, 0, word + "xt"), due[side]);
        }
        due("at the edge already", ends("size 2 2;man 0 0;", 0, "ett"), bits(1));
        due("to ahead of a WALL", ends(board + "wall 17;", 0, "et"), bits(16));
        due("to ahead of his own SIDE", ends(board + "man 0 17;", 0, "et"), bits(16));
        due("over his own FIELD", ends(board, 0, "ewt"), bits(12));
        due("without WAY", ends(board, 0, "t"), 0);
        due("without WAY behind b, g", ends(board, 0, "gt"), 0);
        due("without WAY behind q", ends(board, 0, "qt"), 0);
        due("without WAY behind u of nothing", ends(board + "wall 15;", 0, "uet"), 0);
        due("twice without WAY", ends(board, 0, "xt"), 0);
        due("WAY of the last STEP", ends(board, 0, "nest"), bits(33));
        due("WAY stays by g", ends(board, 0, "ngt"), bits(2));
        due("WAY stays by q", ends(board, 0, "nqt"), bits(2));
        due("WAY stays by u of nothing", ends("size 6 6;man 0 14;wall 9;", 0, "nuet"), bits(2));
        due("WAY of each STEP of a", ends(board, 0, "at"), bits(2, 17, 32, 12));
        due("longest", ends("size 6 6;man 0 0;", 0, "etst"), bits(35));
    }

    /** x: the next SIGN twice; u: the next, if it can be in any way; right ahead of x, u, at the end nothing. */
    static void twiceAndMaybe() {
        String board = "size 6 6;man 0 14;wall 13 17;";
        due("xe twice", ends(board, 0, "xe"), bits(16));
        due("xe, the second can't be", ends(board, 0, "exe"), 0);
        due("xw, the first can't be", ends(board, 0, "xw"), 0);
        due("xa, one behind the other", ends("size 3 3;man 0 4;wall 1 3;", 0, "xa"), bits(2, 4, 6, 8));
        due("xg twice is once", ends(board, 0, "xg"), bits(14));
        due("x of one SIGN alone", ends(board, 0, "xes"), bits(22));
        due("ue can", ends(board, 0, "ue"), bits(15));
        due("uw can't", ends(board, 0, "uw"), bits(14));
        due("u of one SIGN alone", ends(board, 0, "uww"), 0);
        due("ue can, and more behind", ends(board, 0, "ueew"), bits(15));
        due("ue can't from there", ends(board, 0, "xeue"), bits(16));
        due("ua in one way", ends("size 2 2;man 0 0;wall 1;", 0, "ua"), bits(2));
        due("ua in none", ends("size 2 2;man 0 0;wall 1;man 0 2;", 0, "ua"), bits(0));
        int[] next = {1, 5, 7, 3};
        for (int k = 0; k < 4; k++) {
            String walls = "wall " + next[(k + 1) % 4] + " " + next[(k + 2) % 4] + " " + next[(k + 3) % 4] + ";";
            due("ua, one side alone", ends("size 3 3;man 0 4;" + walls, 0, "ua"), bits(next[k]));
        }
        due("ut without WAY", ends(board, 0, "ut"), bits(14));
        due("ut without WAY, from FIELD 0", ends("size 2 2;man 0 0;", 0, "ut"), bits(0));
        due("ut, none is enough", ends(board, 0, "ntut"), bits(2));
        due("ut with WAY must", ends(board, 0, "eut"), bits(16));
        due("ub, none beside", ends(board, 0, "ub"), bits(14));
        due("ug, one beside", ends("size 2 2;man 0 0;man 1 1;", 0, "ug"), bits(0));
        due("ue that TAKES", ends("size 2 2;man 0 0;man 1 1;", 0, "uew"), bits(1));
        due("each PATH by itself", ends("size 3 3;man 0 4;wall 2;", 0, "aun"), bits(0, 1, 4, 5));
        String[] nothing = {"x", "u", "xx", "xu", "ux", "uu", "xxx", "uxuxuxuxu"};
        for (String word : nothing) {
            due(word + " alone", ends(board, 0, word), bits(14));
            due("e" + word, ends(board, 0, word.length() < 9 ? "e" + word : word), bits(word.length() < 9 ? 15 : 14));
        }
        due("xxe is xe", ends(board, 0, "xxe"), bits(16));
        due("uxe is xe", ends(board, 0, "uxe"), bits(16));
        due("uxw is xw", ends(board, 0, "uxw"), 0);
        due("xue is ue", ends(board, 0, "xue"), bits(15));
        due("xuw is uw", ends(board, 0, "xuw"), bits(14));
        due("uuw is uw", ends(board, 0, "uuw"), bits(14));
        due("xuxe is xe", ends(board, 0, "xuxe"), bits(16));
        due("nxe is n, xe", ends(board, 0, "nxe"), bits(10));
    }

    /** b: it goes on, if one of the other SIDE is beside (in one of four sides); g: if none is. */
    static void besideOrNot() {
        int[] beside = {1, 5, 7, 3};
        int[] corners = {0, 2, 6, 8};
        for (int k = 0; k < 4; k++) {
            bOrG("size 3 3;man 0 4;man 1 " + beside[k] + ";", 4, true);
            bOrG("size 3 3;man 1 4;man 0 " + beside[k] + ";", 4, true);
            bOrG("size 3 3;man 0 4;man 1 " + corners[k] + ";", 4, false);
            bOrG("size 3 3;man 0 4;man 0 " + beside[k] + ";", 4, false);
            bOrG("size 3 3;man 0 4;pit " + beside[k] + ";", 4, false);
            bOrG("size 3 3;man 0 4;wall " + beside[k] + ";", 4, false);
        }
        bOrG("size 3 3;man 0 2;man 1 3;", 2, false);
        bOrG("size 3 3;man 0 3;man 1 2;", 3, false);
        bOrG("size 2 2;man 0 0;man 1 3;", 0, false);
        bOrG("size 6 6;man 0 0;man 1 35;", 0, false);
        bOrG("size 6 6;man 0 35;man 1 34;wall 29;", 35, true);
        bOrG("size 6 6;man 0 35;man 1 29;", 35, true);
        bOrG("size 3 3;man 0 4;man 1 1;man 1 3;man 1 5;man 1 7;", 4, true);
        bOrG("size 3 3;man 0 4;", 4, false);
        String board = "size 6 2;man 0 0;man 1 3;";
        due("where the PATH is", ends(board, 0, "xeb"), bits(2));
        due("where the PATH is", ends(board, 0, "eg"), bits(1));
        due("not where it is no more", ends(board, 0, "eb"), 0);
        due("not himself", ends("size 2 2;man 1 0;", 0, "eg"), bits(1));
        due("each PATH by itself", ends("size 3 3;man 0 4;man 1 2;", 0, "ab"), bits(1, 5));
        due("each PATH by itself", ends("size 3 3;man 0 4;man 1 2;", 0, "ag"), bits(3, 7));
    }

    private static void bOrG(String board, int field, boolean beside) {
        due("b on " + board, ends(board, 0, "b"), beside ? bits(field) : 0);
        due("g on " + board, ends(board, 0, "g"), beside ? 0 : bits(field));
    }

    /** q: all SIGNS of the RULE written last ahead of it (as one SIGN), whose own q is nothing; none: nothing. */
    static void quotes() {
        String board = "size 6 6;man 0 14;man 1 35;";
        due("told alone", ends(board, 0, "q"), bits(14));
        due("told alone", ends(board, 0, "nqe"), bits(9));
        due("told alone behind x", ends(board, 0, "xqe"), bits(15));
        due("told alone behind u", ends(board, 0, "uqe"), bits(15));
        WrittenMoves x = playing(board, "say q go 35;say q go 14;say xnx go 23;say x go 14;say eq;", "q");
        due("nothing ahead of the first", x.may(0, 0, 0, 0), bits(35));
        due("q ahead of the second", x.may(0, 0, 1, 0), bits(14));
        due("STOP", x.stop(0, 0), 5);
        may(x, 3, "q", bits(2));
        may(x, 3, "qe", bits(3));
        may(x, 3, "xq", 0);
        may(x, 3, "uq", bits(2));
        may(x, 3, "sxq", 0);
        may(x, 3, "sqe", bits(9));
        may(x, 3, "xsqt", bits(2));
        may(x, 3, "nuqe", bits(9));
        // It is the one written last, by whomever: x, which is nothing.
        may(x, 4, "q", bits(23));
        may(x, 4, "xqw", bits(22));
        may(x, 4, "uqn", bits(17));
        // Its own x and u at its end are nothing, and its own q is.
        x = playing(board, "say nu go 29;say xqs go 8;", "n");
        may(x, 1, "qe", bits(9));
        may(x, 2, "q", bits(35));
        may(x, 2, "wqn", bits(28));
        // t of it has the WAY that is there; as one SIGN it can be, or not, as a whole.
        x = playing(board, "say ut go 35;", "n");
        may(x, 1, "nq", bits(2));
        may(x, 1, "q", bits(14));
        x = playing("size 6 6;man 0 14;man 1 35;wall 13;", "say nw go 28;", "n");
        may(x, 1, "uq", bits(7));
        may(x, 1, "suq", bits(20));
        may(x, 1, "xq", bits(0));
        may(x, 1, "sxuq", bits(20));
        may(x, 1, "uqs", 0);
        may(x, 1, "uqw", bits(6));
        // Of one that stayed nothing stays for the next.
        x = playing("size 3 3;man 0 4;man 1 8;wall 3;", "say w go 7;", "uq");
        due("it can't be", x.may(0, 0, 1, 0), bits(4));
        due("another GAME", Talk.tell(x, 2, NONE, "say n go 5;"), 1);
        due("it can be", x.may(0, 1, 1, 0), bits(1));
        // One whose number is not his SIDE's goes back to his own FIELD; the others are in the way.
        x = playing("size 3 3;man 1 4;man 1 8;man 0 0;man 0 1;", "", "n");
        due("NEXT of SIDE 1", x.state(0, 0, 0, 21), 0);
        may(x, 0, "ew", bits(4));
        x = playing("size 3 3;man 0 4;man 0 7;man 0 3;man 1 8;", "say n go 5;", "n");
        may(x, 0, "ns", bits(8));
        may(x, 1, "ns", bits(4));
        may(x, 1, "a", bits(1, 5));
        x = playing("size 2 2;man 0 0;man 1 3;", "say w go 2;", "n");
        may(x, 1, "uq", bits(0));
        may(x, 1, "q", 0);
        may(x, 1, "eq", bits(0));
    }

    private static void may(WrittenMoves x, int n, String rule, long want) {
        due("rule " + rule, Talk.tell(x, 1, 0, rule), 0);
        due("may behind " + n + " by " + rule, x.may(0, 0, n, 0), want);
    }

    /** ENDS: all SIGNS gone, or TAKEN, FALLEN (his own, too). WAYS: PATHS unlike by any STEP. */
    static void endsAndWays() {
        WrittenMoves x = Talk.with("size 3 3;man 0 4;man 1 8;pit 6;wall 0;", "aa");
        due("ENDS", x.ends(0, 0, 0), bits(2, 4, 6, 8));
        int[] ways = {0, 0, 2, 0, 4, 0, 2, 0, 2};
        for (int field = 0; field < 9; field++) {
            due("WAYS to " + field, x.ways(0, 0, 0, field), ways[field]);
        }
        x = Talk.with("size 2 2;man 0 0;", "x", "ew", "aaaaaaaaa");
        due("WAYS of no STEP", x.ways(0, 0, 0, 0), 1);
        due("WAYS of no STEP elsewhere", x.ways(0, 0, 0, 1), 0);
        due("his own", x.ways(0, 0, 1, 0), 1);
        due("most SIGNS", x.ways(0, 0, 2, 1), 256);
        due("most SIGNS, not his own", x.ways(0, 0, 2, 0), 0);
        x = Talk.with("size 2 2;man 0 0;", "n", "xaxaxaxaa", "qa");
        due("no END at all", x.ends(0, 0, 0), 0);
        due("WAYS then", x.ways(0, 0, 0, 0), 0);
        due("PATH then", x.path(0, 0, 0, 0, NONE), NONE);
        due("x makes more", x.ways(0, 0, 1, 2), 256);
        due("q makes none", x.ways(0, 0, 2, 2), 1);
        String corner = "size 3 3;man 0 4;man 1 2;";
        ways(corner, "ab", 0, 1, 0, 0, 0, 1, 0, 0, 0);
        ways(corner, "ag", 0, 0, 0, 1, 0, 0, 0, 1, 0);
        ways(corner, "aba", 1, 0, 2, 0, 2, 0, 0, 0, 1);
        ways(corner, "aga", 1, 0, 0, 0, 2, 0, 2, 0, 1);
        String walled = "size 3 3;man 0 4;wall 5;";
        ways(walled, "xe", 0, 0, 0, 0, 0, 0, 0, 0, 0);
        ways(walled, "xn", 0, 0, 0, 0, 0, 0, 0, 0, 0);
        ways(walled, "ue", 0, 0, 0, 0, 1, 0, 0, 0, 0);
        ways(walled, "uea", 0, 1, 0, 1, 0, 0, 0, 1, 0);
        ways(walled, "auw", 1, 0, 0, 1, 0, 0, 1, 0, 0);
        ways(walled, "uaw", 1, 0, 0, 0, 0, 0, 1, 0, 0);
        ways(walled, "ut", 0, 0, 0, 0, 1, 0, 0, 0, 0);
        ways(walled, "t", 0, 0, 0, 0, 0, 0, 0, 0, 0);
        ways(walled, "att", 0, 1, 0, 1, 0, 0, 0, 1, 0);
        ways(walled, "ubugxu", 0, 0, 0, 0, 1, 0, 0, 0, 0);
        String among = "size 2 6;man 0 6;man 0 4;man 1 7;pit 10;wall 9;";
        ways(among, "a", 0, 0, 0, 0, 0, 0, 0, 1, 1, 0, 0, 0);
        ways(among, "ua", 0, 0, 0, 0, 0, 0, 0, 1, 1, 0, 0, 0);
        ways(among, "aa", 0, 0, 0, 0, 0, 0, 1, 1, 0, 0, 1, 0);
        ways(among, "sat", 0, 0, 0, 0, 0, 0, 1, 0, 0, 0, 1, 0);
        ways("size 2 6;man 1 10;man 1 11;man 0 8;", "a", 0, 0, 0, 0, 0, 0, 0, 0, 1, 0, 0, 0);
        x = Talk.with("size 6 6;man 0 14;", "xaxaxaxaa");
        due("many WAYS", x.ways(0, 0, 0, 15), manyWays(14, 15, 9));
        x = Talk.with("size 3 3;man 0 0;man 1 1;", "aaaa");
        due("PATHS that TOOK are one", x.ways(0, 0, 0, 1), 1 + 2);
    }

    private static void ways(String board, String rule, int... want) {
        WrittenMoves x = Talk.with(board, rule);
        for (int field = 0; field < want.length; field++) {
            due("WAYS to " + field + " by " + rule + " on " + board, x.ways(0, 0, 0, field), want[field]);
            due("END " + field + " by " + rule + " on " + board, x.ends(0, 0, 0) >>> field & 1, want[field] > 0 ? 1 : 0);
        }
    }

    private static long manyWays(int from, int to, int steps) {
        if (steps == 0) {
            return from == to ? 1 : 0;
        }
        int row = from / 6;
        int column = from % 6;
        return (row > 0 ? manyWays(from - 6, to, steps - 1) : 0) + (row < 5 ? manyWays(from + 6, to, steps - 1) : 0)
            + (column > 0 ? manyWays(from - 1, to, steps - 1) : 0) + (column < 5 ? manyWays(from + 1, to, steps - 1) : 0);
    }

    /** The FIRST by STEPS (fewer first, then by sides n, e, s, w, one by one): its FIELDS, from his own on. */
    static void firstPaths() {
        String three = "size 3 3;man 0 4;";
        path(three, "aaaa", 4, 4, 1, 2, 5, 4);
        path(three, "aaa", 7, 4, 1, 4, 7);
        path(three, "aa", 8, 4, 5, 8);
        path(three, "aa", 6, 4, 7, 6);
        path(three, "aa", 0, 4, 1, 0);
        path(three, "x", 4, 4);
        path(three, "nsew", 4, 4, 1, 4, 5, 4);
        path(three, "aa", 1);
        path("size 3 3;man 0 4;man 1 5;", "aaaa", 5, 4, 5);
        path("size 3 3;man 0 4;pit 3;", "aaaa", 3, 4, 3);
        path("size 6 2;man 0 0;", "aat", 5, 0, 1, 2, 3, 4, 5);
        path("size 6 2;man 0 0;", "atat", 11, 0, 1, 2, 3, 4, 5, 11);
        path("size 6 2;man 0 0;man 1 9;", "at", 6, 0, 6);
        path("size 6 2;man 0 0;man 1 9;", "atatat", 9, 0, 6, 7, 8, 9);
        path("size 6 2;man 0 0;wall 6;", "uset", 5, 0, 1, 2, 3, 4, 5);
        path("size 3 3;man 0 4;man 1 2;", "ab", 1, 4, 1);
        path("size 3 3;man 0 4;man 1 2;", "ag", 3, 4, 3);
        path("size 3 3;man 0 4;man 1 2;", "agab", 8);
        path("size 6 6;man 0 14;", "ng", 8, 14, 8);
        path("size 6 2;man 0 0;pit 3;", "et", 3, 0, 1, 2, 3);
        path("size 2 6;man 0 0;man 0 5;man 1 10;", "ata", 10, 0, 2, 4, 6, 8, 10);
        path("size 6 6;man 0 14;", "euxgueg", 16, 14, 15, 16);
        path("size 3 3;man 0 4;man 1 2;", "agua", 8, 4, 7, 8);
        // Of as few STEPS the first by sides, though the other one FALLS SIGNS ahead of it.
        for (String rule : new String[] {"agata", "agatga", "agatuea", "agatta"}) {
            path("size 4 4;wall 3 5;pit 8 14;man 0 7;", rule, 14, 7, 11, 15, 14);
        }
        path("size 6 6;man 0 0;", "etstwtnte", 1, 0, 1, 2, 3, 4, 5, 11, 17, 23, 29, 35, 34, 33, 32, 31, 30,
            24, 18, 12, 6, 0, 1);
    }

    private static void path(String board, String rule, int to, int... fields) {
        WrittenMoves x = Talk.with(board, rule);
        String call = "PATH to " + to + " by " + rule + " on " + board;
        due(call, x.path(0, 0, 0, to, NONE), fields.length == 0 ? NONE : fields.length);
        for (int k = 0; k < fields.length; k++) {
            due(call + " at " + k, x.path(0, 0, 0, to, k), fields[k]);
        }
        due(call + " behind", x.path(0, 0, 0, to, fields.length), NONE);
        due(call + " far behind", x.path(0, 0, 0, to, 60), NONE);
        due(call + " below", x.path(0, 0, 0, to, -2), NONE);
    }

    // Terms 3

    /** SIDE 0 writes first, then by turns; who can't be obeyed loses his own NEXT man, till it is OVER. */
    static void turns() {
        String board = "size 6 6;man 0 0;man 1 35;man 0 5;man 1 30;man 0 15;man 1 20;";
        WrittenMoves x = playing(board, times(6, "say t;"));
        due("STOP", x.stop(0, 0), 5);
        int[] zeros = {3, 2, 2, 1, 1, 0};
        int[] ones = {3, 3, 2, 2, 1, 1};
        int[] nextZeros = {0, 2, 2, 4, 4, NONE};
        int[] nextOnes = {1, 1, 3, 3, 5, 5};
        int[] fields = {0, 35, 5, 30, 15, 20};
        for (int n = 0; n <= 5; n++) {
            due("who writes " + n, x.state(0, 0, n, 0), n % 2);
            due("OVER " + n, x.state(0, 0, n, 1), n == 5 ? 1 : 0);
            due("men of 0 " + n, x.state(0, 0, n, 2), zeros[n]);
            due("men of 1 " + n, x.state(0, 0, n, 3), ones[n]);
            due("NEXT of 0 " + n, x.state(0, 0, n, 20), nextZeros[n]);
            due("NEXT of 1 " + n, x.state(0, 0, n, 21), nextOnes[n]);
            for (int man = 0; man < 6; man++) {
                due("man " + man + " behind " + n, x.state(0, 0, n, 10 + man), man < n ? NONE : fields[man]);
            }
            due("may " + n, Talk.tell(x, 1, n == 0 ? NONE : 0, "x"), 0);
            due("may " + n, x.may(0, 0, n, 0), n == 5 ? NONE : bits(fields[n % 2 == 0 ? nextOnes[n] : nextZeros[n]]));
        }
        due("behind STOP", x.state(0, 0, 6, 0), -2);
    }

    /** At first the least number; behind a man that went the next greater, then from the least on again. */
    static void nextMan() {
        String board = "size 6 6;man 0 0;man 1 5;man 1 12;man 0 17;man 0 30;man 1 35;";
        int[] went = {5, 0, 12, 17, 35, 30, 5, 0};
        StringBuilder game = new StringBuilder();
        for (int field : went) {
            game.append("say x go ").append(field).append(";");
        }
        WrittenMoves x = playing(board, game.toString());
        due("all can be", x.stop(0, 0), 8);
        int[] zeros = {0, 0, 3, 3, 4, 4, 0, 0, 3};
        int[] ones = {1, 2, 2, 5, 5, 1, 1, 2, 2};
        for (int n = 0; n <= 8; n++) {
            due("NEXT of 0 " + n, x.state(0, 0, n, 20), zeros[n]);
            due("NEXT of 1 " + n, x.state(0, 0, n, 21), ones[n]);
        }
        // Behind one that FELL as behind one that stands; the last of all but one is NEXT each time.
        x = playing("size 6 2;man 1 0;man 0 5;man 1 2;pit 1;", "say e go 1;say x go 5;say x go 2;say x go 5;say x go 2;");
        next(x, 5, NONE, 2, 2, 2, 2, 2);
        x = playing("size 6 2;man 1 0;man 0 5;man 1 2;pit 8;", "say x go 0;say x go 5;say s go 8;say x go 5;say x go 0;");
        next(x, 5, NONE, 2, 2, 0, 0, 0);
        // Behind one that is TAKEN, too: 0 went, and is taken; behind 2 it is 3's turn, then 2's.
        String taken = "size 6 2;man 1 0;man 0 1;man 1 4;man 1 11;";
        x = playing(taken, "say x go 0;say w go 0;say x go 4;say x go 0;say x go 11;say x go 0;say x go 4;");
        next(x, 7, NONE, 2, 2, 3, 3, 2, 2, 3);
        // The greater one is taken ere it is his turn: then from the least on.
        x = playing("size 6 2;man 1 0;man 0 3;man 1 4;", "say x go 0;say e go 4;say x go 0;");
        next(x, 3, NONE, 2, 0, 0);
        // One that is gone for a RULE did not go: the turn stays behind the one that went.
        x = playing("size 6 2;man 0 0;man 0 2;man 0 4;man 1 11;man 1 6;",
            "say x go 11;say x go 0;say x go 6;say x go 2;say t;say x go 0;say t;say x go 0;");
        due("STOP", x.stop(0, 0), 8);
        int[] zeroes = {0, 0, 1, 1, 2, 0, 1, 0, 0};
        for (int n = 0; n <= 8; n++) {
            due("NEXT of 0 behind one gone, " + n, x.state(0, 0, n, 20), zeroes[n]);
        }
    }

    private static void next(WrittenMoves x, int stop, int... ones) {
        due("STOP", x.stop(0, 0), stop);
        for (int n = 1; n < ones.length; n++) {
            due("NEXT of 1 behind " + n, x.state(0, 0, n, 21), ones[n]);
        }
    }

    /** He goes there (one he TAKES is gone; he is gone, if he FALLS); if he has none, the writer's NEXT is gone. */
    static void gone() {
        WrittenMoves x = playing("size 3 3;man 0 0;man 1 4;man 0 5;man 1 8;pit 7;",
            "say e go 5;say e go 1;say w go 7;say s;", "s");
        due("all but the last can be", x.stop(0, 0), 3);
        int[][] where = {{0, 4, 5, 8}, {0, 5, NONE, 8}, {1, 5, NONE, 8}, {1, 5, NONE, NONE}};
        for (int n = 0; n < 4; n++) {
            for (int man = 0; man < 4; man++) {
                due("man " + man + " behind " + n, x.state(0, 0, n, 10 + man), where[n][man]);
            }
        }
        due("where one went away", x.may(0, 0, 3, 0), bits(4));
        x = playing("size 3 3;man 0 0;man 1 4;pit 7;man 1 8;", "say s go 7;say x go 0;say w go 7;");
        due("a PIT stays one", x.stop(0, 0), 3);
        due("OVER", x.state(0, 0, 3, 1), 1);
        due("of SIDE 1", x.state(0, 0, 3, 3), 0);
        due("NEXT of it", x.state(0, 0, 3, 21), NONE);
        due("may when it is OVER", Talk.tell(x, 1, NONE, "x"), 0);
        due("may when it is OVER", x.may(0, 0, 3, 0), NONE);
        due("may ahead of it", x.may(0, 0, 2, 0), bits(8));
        x = playing("size 3 3;man 0 0;man 1 4;man 0 2;", "say t;say x go 2;");
        due("the writer's NEXT is gone", x.state(0, 0, 1, 10), NONE);
        due("he who could not obey stays", x.state(0, 0, 1, 11), 4);
        due("and is NEXT still", x.state(0, 0, 1, 21), 1);
        due("the other obeys then", x.state(0, 0, 2, 12), 2);
        // Where one was gone there is none in the way.
        x = playing("size 2 2;man 0 0;man 1 1;man 0 2;", "say t;say n go 0;");
        due("on his FIELD", x.stop(0, 0), 2);
    }

    /** A MOVE can't be, if this is not so, or it is OVER. */
    static void cannotBe() {
        String board = "size 3 3;man 0 0;man 1 4;pit 7;wall 5;";
        String[] can = {"n go 1", "e", "s go 7", "a go 1", "a go 3", "a go 7", "t", "x go 4", "b", "g go 4", "q go 4"};
        String[] cannot = {"n go 4", "n", "e go 5", "e go 4", "s", "s go 1", "a", "a go 5", "a go 4", "t go 4", "x", "b go 4",
            "n go 9", "n go 35", "x go 31", "n go 33"};
        for (String move : can) {
            due("can be: " + move, playing(board, "say " + move + ";").stop(0, 0), 1);
        }
        for (String move : cannot) {
            due("can't be: " + move, playing(board, "say " + move + ";").stop(0, 0), 0);
            due("can't be behind: " + move, playing(board, "say x go 4;say x go 0;say " + move + ";say x go 4;").stop(0, 0), 2);
        }
        for (String over : new String[] {"", "man 0 0;", "man 1 0;man 1 3;"}) {
            for (String move : new String[] {"n", "x go 0", "x", "t"}) {
                due("OVER on " + over, playing(over, "say " + move + ";").stop(0, 0), 0);
            }
        }
        due("OVER behind", playing(board, "say s go 7;say x go 0;").stop(0, 0), 1);
        due("OVER behind, no FIELD", playing(board, "say s go 7;say t;").stop(0, 0), 1);
    }

    /** STOP: the first MOVE that can't be, else how many there are; a STATE: n up to STOP. */
    static void stops() {
        String board = "man 0 0;man 1 15;";
        String move = "say x go 15;say x go 0;";
        for (int pairs = 0; pairs <= 15; pairs++) {
            WrittenMoves x = playing(board, times(pairs, move));
            due("all of " + 2 * pairs, x.stop(0, 0), 2 * pairs);
            due("STATE behind all", x.state(0, 0, 2 * pairs, 0), 0);
            due("STATE behind more", x.state(0, 0, 2 * pairs + 1, 0), -2);
        }
        for (int bad = 0; bad < 15; bad++) {
            WrittenMoves x = playing(board, times(bad, move) + "say x go 14;" + times(14 - bad, move), "x");
            due("STOP at " + 2 * bad, x.stop(0, 0), 2 * bad);
            due("STATE at STOP", x.state(0, 0, 2 * bad, 11), 15);
            due("STATE behind STOP", x.state(0, 0, 2 * bad + 1, 11), -2);
            due("may at STOP", x.may(0, 0, 2 * bad, 0), bits(15));
            due("may behind STOP", x.may(0, 0, 2 * bad + 1, 0), NONE);
            due("FATAL at STOP", x.fatal(0, 0, 2 * bad, false), NONE);
            due("LOSES at STOP", x.loses(0, 0, 2 * bad), false);
        }
    }

    private static final int[] STAIRS = {0, 1, 7, 8, 14, 15, 21, 22, 28, 29};

    /** A way of turns, east and south: by n SIGNS no one comes further than n FIELDS. */
    private static String stairs(int... further) {
        long open = bits(STAIRS) | bits(further);
        StringBuilder text = new StringBuilder("size 6 6;wall");
        for (int field = 0; field < 36; field++) {
            if ((open >>> field & 1) == 0) {
                text.append(' ').append(field);
            }
        }
        return text.append(";").toString();
    }

    private static void found(String call, String word, java.util.function.IntUnaryOperator answers) {
        Talk.dueWord(call, Talk.word(answers), word);
        int length = word.equals("-1") ? NONE : word.length();
        due(call + ", how many", answers.applyAsInt(0), length);
        for (int what : new int[] {Integer.MIN_VALUE, -2, -1, length < 0 ? 1 : length + 1, 5, 6, 10, Integer.MAX_VALUE}) {
            due(call + ", what " + what, answers.applyAsInt(what), NONE);
        }
    }

    /** RULES by length, then by SIGNS (n first), of at most 4: BIND, DOOM, HUNT, DRIVE, SHORT. */
    static void foundRules() {
        int[] from = {1, 5, 7, 3, 4};
        String[] bind = {"n", "e", "s", "w", "t"};
        for (int k = 0; k < 5; k++) {
            int own = from[k];
            WrittenMoves x = Talk.with("size 3 3;man 0 " + own + ";");
            found("BIND from " + from[k], bind[k], what -> x.binds(0, 0, 0, what));
            found("DOOM of no PIT", "-1", what -> x.binds(0, 0, 1, what));
            found("HUNT of none", "-1", what -> x.binds(0, 0, 2, what));
            found("DRIVE to his own", "x", what -> x.drive(0, 0, own, what));
        }
        int[] next = {1, 5, 7, 3};
        for (int k = 0; k < 4; k++) {
            String there = next[k] + ";";
            WrittenMoves x = Talk.with("size 3 3;man 0 4;pit " + there);
            found("DOOM at once", SIDE_WORDS[k], what -> x.binds(0, 0, 1, what));
            WrittenMoves y = Talk.with("size 3 3;man 0 4;man 1 " + there);
            found("HUNT at once", SIDE_WORDS[k], what -> y.binds(0, 0, 2, what));
            WrittenMoves z = Talk.with("size 3 3;man 0 4;man 0 " + there);
            found("HUNT of none of his own", "-1", what -> z.binds(0, 0, 2, what));
            found("BIND of his own SIDE", SIDE_WORDS[k], what -> z.binds(0, 0, 0, what));
        }
        WrittenMoves mixed = Talk.with("size 3 3;man 0 4;pit 1;man 1 3;man 1 5;man 1 7;");
        found("DOOM, all are PITS", "n", what -> mixed.binds(0, 0, 1, what));
        found("HUNT, all are men", "e", what -> mixed.binds(0, 0, 2, what));
        WrittenMoves all = Talk.with("size 2 2;man 0 0;pit 1 2;man 1 3;");
        found("BIND ahead of DOOM", "n", what -> all.binds(0, 0, 0, what));
        found("DOOM by the first", "e", what -> all.binds(0, 0, 1, what));
        found("HUNT behind PITS", "-1", what -> all.binds(0, 0, 2, what));
        for (int steps = 1; steps <= 6; steps++) {
            onStairs(steps);
        }
        WrittenMoves x = Talk.with("size 3 3;man 0 4;", "n", "nnnnnnnnn", "aaaaaaaaa");
        found("SHORT of itself", "n", what -> x.shorter(0, 0, 0, what));
        found("SHORT of one without ENDS", "t", what -> x.shorter(0, 0, 1, what));
        found("SHORT of a long one", "a", what -> x.shorter(0, 0, 2, what));
        due("RULE", Talk.tell(x, 1, 0, "xuxuxqxux"), 0);
        found("SHORT of nothing", "x", what -> x.shorter(0, 0, 0, what));
        due("RULE", Talk.tell(x, 1, 0, "qe"), 0);
        found("SHORT with q", "e", what -> x.shorter(0, 0, 0, what));
    }

    private static void onStairs(int steps) {
        String word = "esesese".substring(0, steps);
        String within = steps <= 4 ? word : "-1";
        int to = STAIRS[steps];
        WrittenMoves free = Talk.with(stairs() + "man 0 0;", word, word + "uuu", word + "g");
        found("DRIVE by " + word, within, what -> free.drive(0, 0, to, what));
        found("SHORT of " + word, within, what -> free.shorter(0, 0, 0, what));
        found("SHORT of " + word + "uuu", within, what -> free.shorter(0, 0, 1, what));
        found("SHORT of " + word + "g", within, what -> free.shorter(0, 0, 2, what));
        WrittenMoves pit = Talk.with(stairs() + "man 0 0;pit " + to + ";");
        found("DOOM by " + word, within, what -> pit.binds(0, 0, 1, what));
        WrittenMoves foe = Talk.with(stairs() + "man 0 0;man 1 " + to + ";");
        found("HUNT by " + word, within, what -> foe.binds(0, 0, 2, what));
        for (int n = 1; n <= 4; n++) {
            due("REACH by " + n, free.meanings(0, 0, n, true), n + 1);
        }
    }

    /** ALIKE: wherever a man of SIDE 0 could stand (no WALL, PIT, man). MEANINGS by 1 .. 4 SIGNS, none, too. */
    static void alikeAndMeanings() {
        WrittenMoves x = Talk.with("size 2 2;", "n", "w", "e");
        due("from 1 only w can be", x.alike(0, 0, 1), false);
        for (String closed : new String[] {"wall 1 2 3;", "pit 1 2 3;", "man 1 1;wall 2 3;", "wall 1;man 0 2;pit 3;"}) {
            due("BOARD", Talk.tell(x, 0, 0, "size 2 2;" + closed), 0);
            due("from 0 alone: " + closed, x.alike(0, 0, 1), true);
            due("BOARD", Talk.tell(x, 0, 0, "size 2 2;man 1 0;" + closed), 0);
            due("from none: " + closed, x.alike(0, 0, 2), true);
            due("from none: " + closed, x.alike(0, 1, 2), true);
        }
        due("BOARD", Talk.tell(x, 0, 0, "size 2 2;wall 1;man 0 2;pit 3;"), 0);
        due("neither can be from 0", x.alike(0, 2, 0), true);
        due("BOARD", Talk.tell(x, 0, 0, "size 2 2;wall 2;pit 1;man 1 3;"), 0);
        due("e FALLS from 0", x.alike(0, 2, 0), false);
        due("BOARD", Talk.tell(x, 0, 0, "size 2 2;wall 2;man 0 1;man 1 3;"), 0);
        due("one of SIDE 0 is in the way", x.alike(0, 2, 0), true);
        due("BOARD", Talk.tell(x, 0, 0, "size 2 2;wall 2;man 1 1;man 1 3;"), 0);
        due("one of SIDE 1 is TAKEN", x.alike(0, 2, 0), false);
        x = Talk.with("size 3 3;", "x", "qn", "n");
        due("q is nothing", x.alike(0, 1, 2), true);
        due("q is nothing", x.alike(0, 2, 1), true);
        due("x is not n", x.alike(0, 0, 2), false);
        due("BOARD", Talk.tell(x, 0, 0, "size 2 2;man 1 0;wall 1 2 3;"), 0);
        due("from none", x.alike(0, 0, 2), true);
        // Where he could stand is in all rows, whichever of width and height is greater.
        x = Talk.with("size 2 6;wall 0 1 2 3 4 5 6 7 8 9;", "e", "n");
        due("unlike in the last row", x.alike(0, 0, 1), false);
        due("BOARD", Talk.tell(x, 0, 0, "size 6 2;wall 0 1 2 3 6 7 8 9;"), 0);
        due("unlike in the last columns", x.alike(0, 0, 1), false);
        x = Talk.with("size 2 2;man 0 3;wall 1 2;");
        due("REACH shut in, not FIELD 0", x.meanings(0, 0, 4, true), 1);
        x = Talk.with("size 2 2;man 0 0;");
        int[] unlike = {5, 7, 11, 12};
        int[] reach = {3, 4, 4, 4};
        for (int n = 1; n <= 4; n++) {
            due("MEANINGS by " + n, x.meanings(0, 0, n, false), unlike[n - 1]);
            due("REACH by " + n, x.meanings(0, 0, n, true), reach[n - 1]);
        }
        // Counted once by the plain model; asked twice, as nothing may stay of the first time.
        x = Talk.with("size 5 6;pit 0 1 16;man 0 17;man 1 13;man 1 26;man 1 8;man 0 9;man 0 22;");
        int[][] many = {{6, 20, 74, 296}, {6, 23, 91, 384}, {6, 18, 57, 157}, {6, 19, 53, 178}, {6, 19, 61, 162},
            {6, 22, 84, 278}};
        int[][] reached = {{4, 10, 18, 23}, {4, 12, 21, 26}, {4, 9, 13, 17}, {4, 9, 14, 17}, {4, 8, 13, 17},
            {4, 10, 15, 18}};
        for (int asked = 0; asked < 48; asked++) {
            int man = asked / 2 % 6;
            int n = 1 + asked / 12;
            due("MEANINGS of " + man + " by " + n, x.meanings(0, man, n, false), many[man][n - 1]);
            due("REACH of " + man + " by " + n, x.meanings(0, man, n, true), reached[man][n - 1]);
        }
        x = Talk.with("size 2 2;man 0 0;wall 1 2;");
        due("MEANINGS shut in: none and his own", x.meanings(0, 0, 4, false), 2);
        due("REACH shut in: his own", x.meanings(0, 0, 4, true), 1);
        for (int n : new int[] {Integer.MIN_VALUE, -1, 0, 5, 6, Integer.MAX_VALUE}) {
            due("another n", x.meanings(0, 0, n, false), NONE);
            due("another n", x.meanings(0, 0, n, true), NONE);
        }
    }

    // Terms 4

    /** WINS by RULES of at most n SIGNS, 1 .. 2, within d MOVES, 1 .. 3; BEST: the first; SOONEST: the least d. */
    static void winning() {
        for (int side = 0; side < 2; side++) {
            String mine = "man " + side + " ";
            String theirs = "man " + (1 - side) + " ";
            // Two STEPS to the PIT: by one SIGN each it takes two of his own MOVES, by two SIGNS one.
            WrittenMoves x = Talk.with("size 6 2;" + mine + "11;" + theirs + "0;pit 2;");
            wins(x, side, 1, "-1", "-1", "e");
            wins(x, side, 2, "ee", "ee", "e");
            due("SOONEST by 1", x.soonest(0, side, 1), 3);
            due("SOONEST by 2", x.soonest(0, side, 2), 1);
            // Each of two beside a PIT: one by one.
            x = Talk.with("size 6 2;" + mine + "11;" + theirs + "0;" + theirs + "2;pit 1;");
            wins(x, side, 1, "-1", "-1", "e");
            due("SOONEST of two", x.soonest(0, side, 1), 3);
            // The other one writes n, e, s, w, whatever makes the only man of his FALL.
            int[] mines = {9, 6, 2, 11};
            int[] falls = {3, 7, 8, 10};
            int[] from = {0, 4, 11, 0};
            int[] own = {2, 2, 9, 2};
            for (int k = 0; k < 4; k++) {
                String start = "size 6 2;" + mine + mines[k] + ";" + theirs + from[k] + ";pit " + own[k];
                x = Talk.with(start + ";");
                wins(x, side, 1, "-1", "-1", k == 1 || k == 2 ? "w" : "e");
                x = Talk.with(start + " " + falls[k] + ";");
                wins(x, side, 1, "-1", "-1", "-1");
            }
            // He FALLS in FIELD 6, while by the RULES ahead he can't obey.
            x = Talk.with("size 6 2;" + mine + "11;" + theirs + "0;pit 6;");
            wins(x, side, 1, "s", "s", "s");
            // Asked of one BOARD, then of another.
            x = Talk.with("size 2 3;" + mine + "5;" + theirs + "4;pit 0;");
            wins(x, side, 2, "nn", "nn", "n");
            due("BOARD", Talk.tell(x, 0, NONE, "size 2 3;" + mine + "5;" + theirs + "4;"), 1);
            due("the other BOARD", x.wins(1, side, 2, 1, 0), 0);
            due("SOONEST on the other BOARD", x.soonest(1, side, 2), NONE);
            x = Talk.with("size 4 4;pit 1;" + theirs + "0;");
            due("OVER, though by one MOVE he would FALL", x.wins(0, side, 1, 1, 0), 0);
            // Of three one is left behind three MOVES.
            x = Talk.with("size 6 2;" + mine + "11;" + theirs + "0;" + theirs + "2;" + theirs + "7;pit 1;");
            wins(x, side, 1, "-1", "-1", "-1");
            wins(x, side, 2, "-1", "-1", "-1");
            due("SOONEST of three", x.soonest(0, side, 2), NONE);
            // The first RULE of several: n ahead of e.
            x = Talk.with("size 3 3;" + mine + "8;" + theirs + "3;pit 0 4;");
            wins(x, side, 1, "n", "n", "n");
            // Whose turn it is: the one beside a PIT has no RULE for one that is beside none.
            x = Talk.with("size 3 2;" + mine + "5;" + theirs + "0;pit 1;");
            wins(x, side, 1, "e", "e", "e");
            due("the turn of the other one", x.wins(0, 1 - side, 1, 1, 0), 0);
            // Not obeyed his only man is gone: nobody but the other one WINS by it.
            x = Talk.with("size 2 2;" + mine + "0;" + theirs + "3;wall 1 2;");
            wins(x, side, 1, "-1", "-1", "-1");
            wins(x, side, 2, "-1", "-1", "-1");
        }
    }

    private static void wins(WrittenMoves x, int side, int n, String... best) {
        for (int d = 1; d <= 3; d++) {
            String word = best[d - 1];
            String call = "WINS of " + side + " by " + n + " within " + d;
            boolean none = word.equals("-1");
            due(call, x.wins(0, side, n, d, 0), none ? 0 : 1);
            due(call + ", SIGNS of BEST", x.wins(0, side, n, d, 1), none ? NONE : word.length());
            for (int k = 0; k < 2; k++) {
                due(call + ", SIGN " + k, x.wins(0, side, n, d, 2 + k),
                    none || k >= word.length() ? NONE : "neswatxubg".indexOf(word.charAt(k)));
            }
        }
    }

    /** FATAL: the first place where another SIGN (n to g) would have made him fall (ENDS, all PITS); the first SIGN. */
    static void fatalMoves() {
        String board = "size 3 3;man 0 0;man 1 8;";
        fatal(board + "pit 5 7;", "say x go 8;", 0, 0, 0);
        fatal(board + "pit 7;", "say x go 8;", 0, 0, 3);
        fatal(board + "pit 5;", "say n go 5;", 0, NONE, NONE);
        fatal(board + "pit 5 7;", "say n go 5;", 0, 0, 3);
        fatal(board + "pit 5 7;", "say a go 5;", 0, 0, 0);
        fatal(board, "say x go 8;", 0, NONE, NONE);
        fatal(board + "wall 5;pit 7;", "say s;", 0, 0, 3);
        fatal(board + "wall 5;pit 7;", "say w go 7;", 0, 0, 4);
        fatal(board + "wall 5;pit 7;", "say x go 8;", 0, 0, 3);
        fatal(board + "pit 4;", "say n go 5;", 0, NONE, NONE);
        fatal(board + "pit 4;", "say nn go 2;", 0, 0, 3);
        fatal(board + "pit 4;", "say xn go 2;", 0, 0, 3);
        fatal(board + "pit 4;", "say nx go 5;", 0, 1, 3);
        fatal(board + "pit 4;", "say nq go 5;", 0, 1, 3);
        fatal(board + "pit 4;", "say wq go 7;", 0, 1, 0);
        fatal(stairs(34, 5) + "pit 34;man 0 5;man 1 0;", "say esesesese go 29;", 0, 8, 2);
        // q, where it is left, is the RULE of the MOVE ahead; in its place another SIGN can be.
        String quoted = "size 3 3;man 0 4;man 1 8;pit 0;";
        fatal(quoted, "say x go 8;say x go 4;", 1, NONE, NONE);
        fatal(quoted, "say w go 7;say qn go 0;", 1, 0, 3);
        fatal(quoted, "say w go 7;say qe go 4;", 1, 1, 0);
        fatal("size 6 6;man 0 14;man 1 35;pit 7;", "say nw go 28;say x go 14;", 1, NONE, NONE);
    }

    private static void fatal(String board, String game, int k, int place, int sign) {
        WrittenMoves x = playing(board, game);
        String call = "FATAL of " + k + " of " + game + " on " + board;
        due(call + ", place", x.fatal(0, 0, k, false), place);
        due(call + ", SIGN", x.fatal(0, 0, k, true), sign);
    }

    /** LOSES: he could have chosen a FIELD by which he neither FALLS nor stands beside one, but did not. */
    static void losingMoves() {
        int[] beside = {1, 5, 7, 3};
        for (int k = 0; k < 4; k++) {
            String board = "size 6 6;man 0 14;man 1 " + new int[] {8, 15, 20, 13}[k] + ";";
            due("goes away from beside " + k, loses(board, "say ua go " + new int[] {2, 16, 26, 12}[k] + ";"), false);
            due("TAKES " + k, loses(board, "say ua go 14;"), false);
            board = "size 3 3;man 0 4;man 1 0;man 1 " + beside[k] + ";";
            due("of his own SIDE beside " + k, loses(board, "say x go 0;"), false);
        }
        String row = "size 6 2;man 0 0;man 1 3;";
        due("beside, though he could", loses(row, "say xa go 1;"), true);
        due("away", loses(row, "say xa go 5;"), false);
        due("below him is beside", loses("size 6 2;man 0 0;man 1 7;", "say a go 6;"), true);
        due("at the corner is not", loses("size 6 2;man 0 0;man 1 8;", "say a go 7;"), false);
        due("beside by all", loses("size 2 2;man 0 0;man 1 3;", "say a go 1;"), false);
        due("away, could TAKE", loses("size 2 2;man 0 0;man 1 1;", "say ua go 3;"), false);
        due("goes beside no one, could TAKE", loses("size 6 2;man 0 0;man 1 1;", "say a go 7;"), false);
        due("TAKES, but stands beside another", loses("size 6 2;man 0 1;man 1 2;man 0 0;", "say a go 1;"), true);
        due("TAKES one, beside none", loses("size 6 2;man 0 1;man 1 2;man 0 5;", "say a go 1;"), false);
        due("FALLS, though he could", loses("size 6 2;man 0 0;man 1 3;pit 4;", "say a go 4;"), true);
        due("FALLS, as by all", loses("size 2 2;man 0 0;man 1 3;pit 1 2;", "say a go 1;"), false);
        due("FALLS or TAKES", loses("size 6 2;man 0 2;man 1 3;wall 9;pit 4;", "say a go 4;"), true);
        due("FALLS or stands beside", loses("size 3 2;man 0 0;man 1 4;pit 5;", "say a go 5;"), false);
        due("no FIELD", loses("size 6 2;man 0 0;man 1 3;", "say t;"), false);
        due("one END", loses("size 6 2;man 0 0;man 1 2;", "say w go 1;"), false);
        // By q, too, and by the second MOVE's man, who is of SIDE 0.
        WrittenMoves x = playing("size 6 2;man 0 0;man 1 3;", "say a go 4;say q go 1;say xq go 3;");
        due("can be", x.stop(0, 0), 2);
        due("of SIDE 0", x.loses(0, 0, 1), false);
        x = playing("size 6 2;man 0 0;man 1 3;", "say a go 2;say q go 1;");
        due("can be", x.stop(0, 0), 2);
        due("by q", x.loses(0, 0, 1), true);
        x = playing("size 6 2;man 0 1;man 1 3;", "say x go 3;say a go 2;");
        due("of SIDE 0, beside", x.loses(0, 0, 1), true);
    }

    private static boolean loses(String board, String game) {
        WrittenMoves x = playing(board, game);
        due("can be: " + game + " on " + board, x.stop(0, 0), 1);
        return x.loses(0, 0, 0);
    }

    /** BRAVE: how many of its men TOOK one (up to STOP). */
    static void braveMen() {
        String board = "size 6 2;man 0 0;man 1 2;man 0 4;man 1 8;man 0 10;pit 5;";
        brave(board, "", 0, 0);
        brave(board, "say xw go 0;", 0, 1);
        brave(board, "say xw go 0;say e go 5;", 0, 1);
        brave(board, "say x go 2;say xe go 2;", 1, 0);
        brave(board, "say xe go 4;say x go 0;say xe go 10;", 0, 2);
        brave(board, "say xe go 4;say x go 0;say x go 8;say xw go 8;", 1, 1);
        brave(board, "say xe go 4;say x go 0;say x go 8;say w go 9;say e go 5;", 0, 1);
        brave(board, "say xe go 3;say xe go 2;", 0, 0);
        brave(board, "say x go 2;say x go 0;say x go 8;say t;say xe go 4;", 0, 0);
        brave(board, "say xw go 0;say t;", 0, 1);
        brave("size 2 2;man 0 0;man 1 1;man 0 2;man 0 3;", "say w go 0;say w go 2;", 0, 1);
        brave("size 2 2;man 0 0;man 1 1;man 0 2;man 0 3;", "say w go 0;say x go 2;say s go 2;say x go 3;say e go 3;", 0, 1);
    }

    private static void brave(String board, String game, int zero, int one) {
        WrittenMoves x = playing(board, game);
        due("BRAVE of 0 by " + game, x.brave(0, 0, 0), zero);
        due("BRAVE of 1 by " + game, x.brave(0, 0, 1), one);
        due("another GAME", Talk.tell(x, 2, NONE, "say x go 2;"), 1);
        due("BRAVE of 0 in another", x.brave(0, 1, 0), 0);
        due("BRAVE of 1 in another", x.brave(0, 1, 1), 0);
    }

    /** DRAWN: so many MOVES, 1 to 30, or till it is OVER; each number drawn, anew for each call. */
    static void drawnGames() {
        WrittenMoves x = Talk.with("size 6 6;man 0 0;man 1 35;");
        for (int moves : new int[] {Integer.MIN_VALUE, -1, 0, 31, 32, Integer.MAX_VALUE}) {
            due("another number of MOVES " + moves, x.drawn(0, 1, moves, 30), -2);
            due("another number of MOVES " + moves, x.drawn(0, 1, moves, 0), -2);
        }
        int[] seeds = {Integer.MIN_VALUE, -65536, -1, 0, 1, 65535, 65536, 12345, Integer.MAX_VALUE};
        for (int seed : seeds) {
            for (int moves = 1; moves <= 30; moves++) {
                int made = x.drawn(0, seed, moves, 30);
                due("MOVES of " + seed, made >= 1 && made <= moves, true);
                due("till it is OVER " + seed, made == moves || x.drawn(0, seed, moves, 1) == 1, true);
                due("who writes " + seed, x.drawn(0, seed, moves, 0), made % 2);
                due("as before " + seed, x.drawn(0, seed, moves, 30), made);
                int men = x.drawn(0, seed, moves, 2) + x.drawn(0, seed, moves, 3);
                due("men " + seed, men, x.drawn(0, seed, moves, 1) == 1 ? 1 : 2);
            }
        }
        for (String over : new String[] {"", "man 0 3;", "man 1 3;"}) {
            WrittenMoves y = Talk.with(over);
            due("OVER at first " + over, y.drawn(0, 1, 1, 30), 0);
            due("OVER at first " + over, y.drawn(0, 1, 30, 1), 1);
            due("OVER at first " + over, y.drawn(0, 1, 30, 0), 0);
            due("OVER at first " + over, y.drawn(0, 1, 30, 10), over.isEmpty() ? -2 : 3);
        }
        oneDrawn();
    }

    /** One MOVE by each of many seeds, its numbers drawn here: on an empty BOARD where each END is told by hand. */
    private static void oneDrawn() {
        WrittenMoves x = Talk.with("size 2 2;wall 3;man 0 1;man 1 2;man 0 0;");
        for (int k = 0; k < 300; k++) {
            int seed = k * 0x01234567 + k;
            int drawn = seed * 1103515245 + 12345;
            int signs = (drawn >>> 16) % 3 + 1;
            if (signs != 1) {
                continue;
            }
            drawn = drawn * 1103515245 + 12345;
            int sign = (drawn >>> 16) % 10;
            boolean takes = sign == 0 || sign == 4;
            boolean stays = sign == 6 || sign == 7 || sign == 8;
            due("SIGN " + sign + " of " + seed, x.drawn(0, seed, 1, 11), takes ? 0 : 2);
            due("TAKEN by " + sign, x.drawn(0, seed, 1, 12), takes ? NONE : 0);
            due("not obeyed " + sign, x.drawn(0, seed, 1, 10), takes || stays ? 1 : NONE);
        }
        // Of several ENDS, by FIELDS, that of the number drawn.
        x = Talk.with("size 3 3;man 0 0;man 1 4;");
        for (int k = 0; k < 600; k++) {
            int seed = k * 0x01234567 - k;
            int drawn = seed * 1103515245 + 12345;
            int signs = (drawn >>> 16) % 3 + 1;
            drawn = drawn * 1103515245 + 12345;
            if (signs == 1 && (drawn >>> 16) % 10 == 4) {
                drawn = drawn * 1103515245 + 12345;
                due("a, by " + seed, x.drawn(0, seed, 1, 11), new int[] {1, 3, 5, 7}[(drawn >>> 16) % 4]);
            }
        }
    }

    // Promises 1 to 5

    /** No BOARDS, RULES, GAMES; no images. */
    static void newObject() {
        WrittenMoves x = new WrittenMoves();
        for (int k = -2; k < 5; k++) {
            due("count " + k, x.count(k), k >= 0 && k <= 2 ? 0 : -2);
            due("again " + k, x.again(k), false);
            due("board " + k, x.board(k, 0), NONE);
            due("rule " + k, x.rule(k, NONE), -2);
            due("move " + k, x.move(k, NONE, 0), -2);
            due("fault " + k, x.fault(k), k == 0 ? 0 : NONE);
        }
        due("tape", x.end(0), 0);
        due("tape", x.end(1), NONE);
        WrittenMoves y = new WrittenMoves();
        due("another object", Talk.tell(y, 0, NONE, "man 0 0;"), 0);
        due("image", y.image(0), true);
        due("of the first there is none still", x.count(0), 0);
        due("no image of it", x.again(0), false);
        due("no tape of it", x.feed(0, 0, 0, 0, 0), 20);
    }

    /** Twenty bytes, of each number the highest first; NONE, and nothing comes, if there would be more than 600. */
    static void feeding() {
        WrittenMoves x = new WrittenMoves();
        due("feed", x.feed(0x6e657377, 0x61747875, 0x62202020, 0x20202020, 0x0a0a0a0a), 20);
        due("text", x.text(1, NONE), 0);
        for (int k = 0; k < 9; k++) {
            due("byte " + k, x.rule(0, k), k);
        }
        for (int at = 0; at < 20; at++) {
            int[] numbers = {0x20202020, 0x20202020, 0x20202020, 0x20202020, 0x20202020};
            numbers[at / 4] ^= (0x20 ^ 0xff) << 24 - 8 * (at % 4);
            due("feed", x.feed(numbers[0], numbers[1], numbers[2], numbers[3], numbers[4]), 20);
            due("text", x.text(0, NONE), NONE);
            due("byte " + at, x.fault(1), at);
        }
        for (int left = 0; left < 20; left++) {
            for (int have = 20; have <= 580; have += 20) {
                due("feed", x.feed(0x20202020, 0x20202020, 0x20202020, 0x20202020, 0x20202020), have);
            }
            due("end", x.end(580 - left), 580 - left);
            due("to the brim", x.feed(0x20202020, 0x20202020, 0x20202020, 0x20202020, 0x20202020), 600 - left);
            for (int times = 0; times < 2; times++) {
                due("over it", x.feed(0x21212121, 0x21212121, 0x21212121, 0x21212121, 0x21212121), NONE);
            }
            due("nothing came", x.end(601 - left), NONE);
            due("nothing went", x.end(600 - left), 600 - left);
            due("nothing came", x.text(2, 0), -2);
        }
        for (int have = 20; have <= 600; have += 20) {
            due("feed", x.feed(0x20202020, 0x20202020, 0x20202020, 0x20202020, 0x20202020), have);
        }
        due("over it", x.feed(0x21212121, 0x21212121, 0x21212121, 0x21212121, 0x21212121), NONE);
        due("all blank", x.text(0, NONE), 0);
    }

    /** The tape has its first n bytes alone: n. NONE if it has not so many, or n is below 0. */
    static void ending() {
        WrittenMoves x = new WrittenMoves();
        for (int n : OUTSIDE) {
            due("end of none " + n, x.end(n), NONE);
        }
        due("end of none", x.end(0), 0);
        Talk.put(x, 0, "nesw");
        due("one more", x.end(5), NONE);
        due("below", x.end(-1), NONE);
        due("as many", x.end(4), 4);
        due("fewer", x.end(2), 2);
        due("no more there", x.end(3), NONE);
        due("behind these", x.feed(0x61202020, 0x20202020, 0x20202020, 0x20202020, 0x20202020), 22);
        due("the first alone", x.text(1, NONE), 0);
        due("the first alone", x.rule(0, NONE), 3);
        due("what came behind", x.rule(0, 2), 4);
        Talk.put(x, 0, "nesw");
        due("none at all", x.end(0), 0);
        due("none at all", x.text(0, NONE), 0);
        Talk.put(x, 0, "k");
        due("an end that can't be keeps all", x.end(2), NONE);
        due("an end that can't be keeps all", x.text(0, NONE), NONE);
        due("an end that can't be keeps all", x.fault(1), 0);
    }

    /** The tape is taken, and is empty then; -2: none such, as many as may be, no such sort: no text is read, FAULT 0. */
    static void telling() {
        WrittenMoves x = Talk.with("size 2 3;", "n");
        for (int sort = 0; sort < 3; sort++) {
            for (int at : OUTSIDE) {
                noText(x, sort, at);
            }
            noText(x, sort, x.count(sort));
        }
        for (int sort : OUTSIDE) {
            noText(x, sort, NONE);
            noText(x, sort, 0);
        }
        noText(x, -1, NONE);
        noText(x, 3, NONE);
        noText(x, 3, 0);
        due("another what", x.fault(2), NONE);
        for (int what : OUTSIDE) {
            due("another what " + what, x.fault(what), NONE);
        }
        due("a second", Talk.tell(x, 0, NONE, "size 2 4;"), 1);
        noText(x, 0, NONE);
        noText(x, 0, 2);
        due("in its place", Talk.tell(x, 0, 1, "size 2 5;"), 1);
        due("a FAULT", Talk.tell(x, 0, 1, "size 2 6"), NONE);
        due("tape empty", x.end(1), NONE);
        due("FAULT", x.fault(0), 1);
        due("place", x.fault(1), 8);
        due("of the latest text", Talk.tell(x, 0, 0, "wall 36;"), NONE);
        due("FAULT", x.fault(0), 2);
        due("place", x.fault(1), 5);
        due("of the latest text", Talk.tell(x, 0, 1, "size 2 2;"), 1);
        due("FAULT", x.fault(0), 0);
        due("place", x.fault(1), NONE);
        due("tape empty", x.end(1), NONE);
        due("an empty tape is a text", x.text(2, NONE), 0);
        due("an empty tape is a text", x.text(0, 1), 1);
        due("of no RULE", x.text(1, 0), NONE);
        due("place", x.fault(1), 0);
        due("it stays", x.rule(0, 0), 0);
    }

    private static void noText(WrittenMoves x, int sort, int at) {
        due("a FAULT ahead", Talk.tell(x, 0, 0, "k"), NONE);
        int[] counts = {x.count(0), x.count(1), x.count(2)};
        due("no text " + sort + " " + at, Talk.tell(x, sort, at, sort == 0 ? "size 6 6;" : "k"), -2);
        due("FAULT of no text", x.fault(0), 0);
        due("place of no text", x.fault(1), NONE);
        due("tape of no text", x.end(1), NONE);
        for (int k = 0; k < 3; k++) {
            due("count " + k, x.count(k), counts[k]);
        }
        due("the first BOARD stays", x.board(0, 1), 3);
    }

    // Promises 6 to 30: the one that is asked of several, and what there is none of

    /** Each call asks that BOARD, that RULE, that GAME which its numbers say. */
    static void eachOfSeveral() {
        WrittenMoves x = playing("size 2 2;man 0 0;man 1 3;", "say n go 1;say e go 1;", "e", "s", "a");
        due("second BOARD", Talk.tell(x, 0, NONE, "size 3 3;man 0 4;man 1 8;pit 5;wall 3;"), 1);
        due("second GAME", Talk.tell(x, 2, NONE, "say w go 7;say a go 5;"), 1);
        // By BOARD, and by RULE, GAME or man where a call has one.
        int[][] wide = {{2, 2, 2, 0, 0}, {3, 3, 2, 1, 1}};
        int[][] men = {{0, 3}, {4, 8}};
        long[][] ends = {{bits(1), bits(2), bits(1, 2)}, {bits(5), bits(7), bits(1, 5, 7)}};
        long[][] others = {{0, 0, bits(1, 2)}, {0, 0, bits(5, 7)}};
        int[][] stops = {{2, 0}, {0, 2}};
        for (int board = 0; board < 2; board++) {
            for (int what = 0; what < 5; what++) {
                due("board " + board, x.board(board, what), wide[board][what]);
            }
            for (int k = 0; k < 2; k++) {
                due("man " + k + " of " + board, x.man(board, k, 1), men[board][k]);
                due("his FIELD of " + board, x.field(board, men[board][k]), 10 + k);
                due("STOP of " + k + " on " + board, x.stop(board, k), stops[board][k]);
                due("STATE of " + k + " on " + board, x.state(board, k, 1, 0), stops[board][k] > 0 ? 1 : -2);
                due("last STATE of " + k + " on " + board, x.state(board, k, 2, 1), stops[board][k] > 0 ? 1 : -2);
                due("LOSES of " + k + " on " + board, x.loses(board, k, 1), board == 1 && k == 1);
                due("FATAL of " + k + " on " + board, x.fatal(board, k, 0, true), board == 1 && k == 1 ? 0 : NONE);
                due("FATAL of " + k + " on " + board, x.fatal(board, k, 1, true), board == 1 && k == 1 ? 1 : NONE);
                due("BRAVE of 0, " + k + " on " + board, x.brave(board, k, 0), board == 0 && k == 0 ? 1 : 0);
                due("BRAVE of 1, " + k + " on " + board, x.brave(board, k, 1), 0);
            }
            for (int rule = 0; rule < 3; rule++) {
                due("ENDS by " + rule + " on " + board, x.ends(board, 0, rule), ends[board][rule]);
                due("other's ENDS by " + rule + " on " + board, x.ends(board, 1, rule), others[board][rule]);
                due("may by " + rule + " on " + board, x.may(board, board, 1, rule), ends[board][rule]);
                due("may at first on " + board, x.may(board, 1 - board, 0, rule), others[board][rule]);
                due("may behind STOP on " + board, x.may(board, 1 - board, 1, rule), NONE);
            }
        }
        due("where he is", x.state(0, 0, 1, 11), 1);
        due("where he is", x.state(1, 1, 1, 11), 7);
        due("WAYS", x.ways(1, 0, 2, 7), 1);
        due("WAYS", x.ways(1, 0, 1, 5), 0);
        due("WAYS", x.ways(0, 0, 2, 2), 1);
        due("WAYS, no FIELD there", x.ways(0, 0, 2, 7), NONE);
        due("PATH", x.path(1, 1, 2, 7, 1), 7);
        due("PATH", x.path(0, 1, 2, 2, 1), 2);
        due("PATH, no FIELD there", x.path(0, 0, 2, 7, NONE), NONE);
        due("RULES", x.rule(0, 0) * 100 + x.rule(1, 0) * 10 + x.rule(2, 0), 124);
        due("MOVES", x.move(0, 1, 0) * 1000 + x.move(0, 0, 10) * 100 + x.move(1, 1, 0) * 10 + x.move(1, 0, 10), 1053);
        due("BIND", x.binds(0, 0, 0, 1), 0);
        due("BIND", x.binds(1, 0, 0, 1), 3);
        due("DOOM", x.binds(0, 0, 1, 1), NONE);
        due("DOOM", x.binds(1, 0, 1, 1), 1);
        due("DOOM", x.binds(1, 1, 1, 1), 0);
        due("DRIVE", x.drive(0, 1, 2, 1), 3);
        due("DRIVE", x.drive(1, 1, 2, 0), NONE);
        due("DRIVE, no FIELD there", x.drive(0, 0, 7, 0), NONE);
        due("DRIVE", x.drive(1, 0, 7, 1), 2);
        due("SHORT", x.shorter(1, 0, 1, 1), 2);
        due("SHORT", x.shorter(0, 1, 1, 1), 1);
        due("SHORT", x.shorter(1, 0, 2, 1), 4);
        due("ALIKE", x.alike(0, 0, 1), false);
        due("ALIKE", x.alike(1, 2, 2), true);
        due("REACH", x.meanings(0, 0, 1, true), 3);
        due("REACH", x.meanings(1, 0, 1, true), 4);
        due("WINS", x.wins(0, 0, 1, 1, 0), 0);
        due("WINS", x.wins(1, 0, 1, 1, 2), 0);
        due("WINS", x.wins(1, 1, 1, 1, 2), 1);
        due("SOONEST", x.soonest(0, 0, 1), NONE);
        due("SOONEST", x.soonest(1, 1, 1), 1);
        due("DRAWN", x.drawn(0, 0, 1, 11), 3);
        due("DRAWN", x.drawn(1, 0, 1, 11), 8);
        due("image", x.image(0), true);
        due("another third RULE", Talk.tell(x, 1, 2, "www"), 2);
        due("again", x.again(0), true);
        due("the third RULE", x.rule(2, NONE) * 10 + x.rule(2, 0), 14);
    }

    private static int[] bad(int count) {
        int[] bad = new int[OUTSIDE.length + 4];
        System.arraycopy(OUTSIDE, 0, bad, 0, OUTSIDE.length);
        bad[OUTSIDE.length] = -1;
        bad[OUTSIDE.length + 1] = count;
        bad[OUTSIDE.length + 2] = count + 1;
        bad[OUTSIDE.length + 3] = count + 32;
        return bad;
    }

    /** One BOARD of six FIELDS and two men, one RULE, one GAME of two MOVES: each number that there is none of. */
    static void noneSuch() {
        WrittenMoves x = playing("size 3 2;man 0 0;man 1 5;pit 1;", "say x go 5;say a go 3;", "a");
        for (int number : bad(1)) {
            noBoard(x, number);
            noRule(x, number);
            noGame(x, number);
        }
        for (int man : bad(2)) {
            due("no man " + man, x.man(0, man, 0), NONE);
            due("no man " + man, x.man(0, man, 1), NONE);
            due("no man " + man, x.ends(0, man, 0), NONE);
            due("no man " + man, x.ways(0, man, 0, 0), NONE);
            due("no man " + man, x.path(0, man, 0, 1, NONE), NONE);
            for (int sort = 0; sort < 3; sort++) {
                due("no man " + man, x.binds(0, man, sort, 0), NONE);
            }
            due("no man " + man, x.drive(0, man, 0, 0), NONE);
            due("no man " + man, x.shorter(0, man, 0, 0), NONE);
            due("no man " + man, x.meanings(0, man, 1, false), NONE);
            due("no man " + man, x.meanings(0, man, 1, true), NONE);
            due("no MOVE " + man, x.fatal(0, 0, man, false), NONE);
            due("no MOVE " + man, x.fatal(0, 0, man, true), NONE);
            due("no MOVE " + man, x.loses(0, 0, man), false);
            due("no SIDE " + man, x.brave(0, 0, man), NONE);
            due("no SIDE " + man, x.soonest(0, man, 1), NONE);
            for (int what = 0; what < 4; what++) {
                due("no SIDE " + man, x.wins(0, man, 1, 1, what), -2);
                if (man != NONE || what != 0) {
                    due("no MOVE " + man, x.move(0, man, what), -2);
                }
            }
        }
        for (int field : bad(6)) {
            due("no FIELD " + field, x.field(0, field), NONE);
            due("no FIELD " + field, x.ways(0, 0, 0, field), NONE);
            due("no FIELD " + field, x.path(0, 0, 0, field, NONE), NONE);
            due("no FIELD " + field, x.drive(0, 0, field, 0), NONE);
        }
        for (int n : bad(3)) {
            due("no STATE " + n, x.state(0, 0, n, 0), -2);
            due("no STATE " + n, x.may(0, 0, n, 0), NONE);
            due("no n " + n, x.wins(0, 0, n, 1, 0), -2);
            due("no n " + n, x.soonest(0, 0, n), NONE);
        }
        for (int number : bad(4)) {
            due("no d " + number, x.wins(0, 0, 1, number, 0), -2);
        }
        due("no n 0", x.wins(0, 0, 0, 1, 0), -2);
        due("no n 0", x.soonest(0, 0, 0), NONE);
        due("no d 0", x.wins(0, 0, 1, 0, 0), -2);
        allThere(x);
    }

    private static void noBoard(WrittenMoves x, int board) {
        String call = "no BOARD " + board;
        for (int what = 0; what < 5; what++) {
            due(call, x.board(board, what), NONE);
            due(call, x.wins(board, 0, 1, 1, what), -2);
            due(call, x.state(board, 0, 0, what), -2);
            due(call, x.drawn(board, 0, 1, what), -2);
        }
        due(call, x.drawn(board, 0, 1, 30), -2);
        due(call, x.field(board, 0), NONE);
        due(call, x.man(board, 0, 0), NONE);
        due(call, x.ends(board, 0, 0), NONE);
        due(call, x.ways(board, 0, 0, 1), NONE);
        due(call, x.path(board, 0, 0, 1, NONE), NONE);
        due(call, x.stop(board, 0), NONE);
        due(call, x.may(board, 0, 0, 0), NONE);
        due(call, x.fatal(board, 0, 0, false), NONE);
        due(call, x.fatal(board, 0, 1, true), NONE);
        due(call, x.loses(board, 0, 1), false);
        due(call, x.brave(board, 0, 0), NONE);
        for (int sort = 0; sort < 3; sort++) {
            due(call, x.binds(board, 0, sort, 0), NONE);
        }
        due(call, x.drive(board, 0, 1, 0), NONE);
        due(call, x.shorter(board, 0, 0, 0), NONE);
        due(call, x.alike(board, 0, 0), false);
        due(call, x.meanings(board, 0, 1, false), NONE);
        due(call, x.meanings(board, 0, 1, true), NONE);
        due(call, x.soonest(board, 0, 1), NONE);
    }

    private static void noRule(WrittenMoves x, int rule) {
        String call = "no RULE " + rule;
        due(call, x.rule(rule, NONE), -2);
        due(call, x.rule(rule, 0), -2);
        due(call, x.ends(0, 0, rule), NONE);
        due(call, x.ways(0, 0, rule, 1), NONE);
        due(call, x.path(0, 0, rule, 1, NONE), NONE);
        due(call, x.may(0, 0, 0, rule), NONE);
        due(call, x.shorter(0, 0, rule, 0), NONE);
        due(call, x.alike(0, rule, 0), false);
        due(call, x.alike(0, 0, rule), false);
        due(call, x.alike(0, rule, rule), false);
    }

    private static void noGame(WrittenMoves x, int game) {
        String call = "no GAME " + game;
        due(call, x.move(game, NONE, 0), -2);
        due(call, x.move(game, 0, 0), -2);
        due(call, x.stop(0, game), NONE);
        due(call, x.state(0, game, 0, 0), -2);
        due(call, x.may(0, game, 0, 0), NONE);
        due(call, x.fatal(0, game, 0, false), NONE);
        due(call, x.loses(0, game, 1), false);
        due(call, x.brave(0, game, 0), NONE);
    }

    /** With the numbers that there are each of these calls has an answer. */
    private static void allThere(WrittenMoves x) {
        due("man", x.man(0, 1, 1), 5);
        due("rule", x.rule(0, 0), 4);
        due("ends", x.ends(0, 1, 0), bits(2, 4));
        due("ways", x.ways(0, 1, 0, 4), 1);
        due("path", x.path(0, 1, 0, 4, 1), 4);
        due("stop", x.stop(0, 0), 2);
        due("state", x.state(0, 0, 2, 10), 3);
        due("may", x.may(0, 0, 2, 0), bits(2, 4));
        due("fatal", x.fatal(0, 0, 1, true), 1);
        due("loses", x.loses(0, 0, 1), false);
        due("brave", x.brave(0, 0, 1), 0);
        due("binds", x.binds(0, 1, 0, 1), 1);
        due("drive", x.drive(0, 1, 4, 1), 3);
        due("shorter", x.shorter(0, 1, 0, 1), 4);
        due("alike", x.alike(0, 0, 0), true);
        due("meanings", x.meanings(0, 1, 4, true) > 1, true);
        due("wins", x.wins(0, 1, 1, 3, 2), 1);
        due("soonest", x.soonest(0, 1, 2), 1);
    }

    private static void whats(String call, LongSupplier[] answers, int none, int... good) {
        for (int what = -3; what < answers.length - 3; what++) {
            boolean isGood = false;
            for (int one : good) {
                isGood |= one == what;
            }
            due(call + ", what " + what, answers[what + 3].getAsLong() == none, !isGood);
        }
    }

    private static LongSupplier[] asked(java.util.function.IntUnaryOperator call) {
        LongSupplier[] answers = new LongSupplier[50];
        for (int k = 0; k < answers.length; k++) {
            int what = k - 3;
            answers[k] = () -> call.applyAsInt(what);
        }
        return answers;
    }

    /** Which whats each call has, of all from -3 to 46: for another one NONE, or -2. */
    static void otherWhats() {
        WrittenMoves x = playing("size 3 2;man 0 0;man 1 5;pit 1;", "say xu go 5;say ax go 3;say xqt go 5;", "aqwt");
        whats("fault", asked(x::fault), NONE, 0);
        whats("board", asked(what -> x.board(0, what)), NONE, 0, 1, 2, 3, 4);
        whats("man", asked(what -> x.man(0, 1, what)), NONE, 0, 1);
        whats("rule", asked(k -> x.rule(0, k)), -2, -1, 0, 1, 2, 3);
        whats("move", asked(what -> x.move(0, 2, what)), -2, 0, 1, 10, 11, 12);
        whats("move of NONE", asked(what -> x.move(0, NONE, what)), -2, 0);
        whats("move k", asked(k -> x.move(0, k, 0)), -2, -1, 0, 1, 2);
        whats("move k, 1", asked(k -> x.move(0, k, 1)), -2, 0, 1, 2);
        whats("path", asked(k -> x.path(0, 1, 0, 3, k)), NONE, -1, 0, 1, 2);
        int stop = x.stop(0, 0);
        due("STOP", stop, 3);
        for (int n = 0; n <= stop; n++) {
            int behind = n;
            whats("state", asked(what -> x.state(0, 0, behind, what)), -2, 0, 1, 2, 3, 10, 11, 20, 21);
        }
        whats("drawn", asked(what -> x.drawn(0, 5, 30, what)), -2, 0, 1, 2, 3, 10, 11, 20, 21, 30);
        whats("drawn, MOVES", asked(moves -> x.drawn(0, 5, moves, 0)), -2, 1, 2, 3, 4, 5, 6, 7, 8, 9, 10, 11, 12, 13,
            14, 15, 16, 17, 18, 19, 20, 21, 22, 23, 24, 25, 26, 27, 28, 29, 30);
        whats("binds", asked(what -> x.binds(0, 0, 1, what)), NONE, 0, 1);
        whats("binds, sort", asked(sort -> x.binds(0, 0, sort, 0)), NONE, 0, 1, 2);
        whats("drive", asked(what -> x.drive(0, 0, 2, what)), NONE);
        whats("drive", asked(what -> x.drive(0, 1, 3, what)), NONE, 0, 1, 2);
        whats("shorter", asked(what -> x.shorter(0, 1, 0, what)), NONE, 0, 1, 2);
        whats("meanings, n", asked(n -> x.meanings(0, 0, n, false)), NONE, 1, 2, 3, 4);
        whats("wins", asked(what -> x.wins(0, 1, 2, 3, what)), -2, 0, 1, 2, 3);
        whats("wins, none", asked(what -> x.wins(0, 0, 1, 1, what)), -2, 0, 1, 2, 3);
        whats("wins, n", asked(n -> x.wins(0, 1, n, 3, 0)), -2, 1, 2);
        whats("wins, d", asked(d -> x.wins(0, 1, 2, d, 0)), -2, 1, 2, 3);
        whats("soonest, n", asked(n -> x.soonest(0, 1, n)), NONE, 1, 2);
        whats("count", asked(x::count), -2, 0, 1, 2);
        whats("brave", asked(side -> x.brave(0, 0, side)), NONE, 0, 1);
        int[] odd = OUTSIDE.clone();
        for (int what : odd) {
            due("board " + what, x.board(0, what), NONE);
            due("man " + what, x.man(0, 0, what), NONE);
            due("rule " + what, x.rule(0, what), -2);
            due("path " + what, x.path(0, 0, 0, 1, what), NONE);
            due("move " + what, x.move(0, 0, what), -2);
            due("state " + what, x.state(0, 0, 0, what), -2);
            due("binds " + what, x.binds(0, 0, 0, what), NONE);
            due("binds " + what, x.binds(0, 0, what, 0), NONE);
            due("wins " + what, x.wins(0, 0, 1, 1, what), -2);
            due("drawn " + what, x.drawn(0, 0, 1, what), -2);
            due("count " + what, x.count(what), -2);
        }
    }

    /** Image k (0 .. 2) is all that is told (the tape, the FAULT, too), as it is now; again: all is as it has it. */
    static void images() {
        WrittenMoves x = new WrittenMoves();
        for (int k : bad(3)) {
            due("no image " + k, x.image(k), false);
            due("no image " + k, x.again(k), false);
        }
        due("of a new object", x.image(1), true);
        tellAll(x, "size 2 3;man 1 5;pit 0;wall 1;", "nq", "say n go 1;say qs;");
        Talk.put(x, 0, "wall 36;");
        due("FAULT", x.text(0, NONE), NONE);
        Talk.put(x, 0, "say");
        due("image", x.image(0), true);
        due("not taken", x.again(2), false);
        due("more tape", x.feed(0x20746f20, 0, 0, 0, 0), 23);
        due("no tape", x.end(0), 0);
        due("another FAULT", Talk.tell(x, 0, 0, "k"), NONE);
        due("another place", x.fault(1), 0);
        for (int at = 0; at < 2; at++) {
            tellAll(x, at);
        }
        due("a third RULE", Talk.tell(x, 1, NONE, "w"), 2);
        due("image", x.image(2), true);
        for (int times = 0; times < 2; times++) {
            due("again", x.again(0), true);
            asImage0(x);
            due("again", x.again(1), true);
            for (int sort = 0; sort < 3; sort++) {
                due("a new one, count " + sort, x.count(sort), 0);
            }
            due("a new one, FAULT", x.fault(0), 0);
            due("a new one, place", x.fault(1), NONE);
            due("a new one, tape", x.end(1), NONE);
            due("again", x.again(2), true);
            due("counts", x.count(0) * 100 + x.count(1) * 10 + x.count(2), 232);
            due("second BOARD", x.board(1, 0), 5);
            due("second RULE", x.rule(1, 0), 3);
            due("second GAME", x.move(1, NONE, 0), 3);
        }
        due("again", x.again(0), true);
        due("its tape goes on", x.feed(0x206e3b20, 0x20202020, 0x20202020, 0x20202020, 0x20202020), 23);
        due("its tape goes on", x.text(2, NONE), 1);
        due("its tape goes on", x.move(1, 0, 1), 1);
        due("in an image's place", x.image(0), true);
        due("again", x.again(1), true);
        due("again", x.again(0), true);
        due("the later one", x.count(2), 2);
        due("no longer its FAULT", x.fault(0), 0);
        due("tape", x.end(1), NONE);
    }

    private static void tellAll(WrittenMoves x, String board, String rule, String game) {
        due("BOARD", Talk.tell(x, 0, NONE, board) >= 0, true);
        if (rule != null) {
            due("RULE", Talk.tell(x, 1, NONE, rule) >= 0, true);
        }
        due("GAME", Talk.tell(x, 2, NONE, game) >= 0, true);
    }

    private static void tellAll(WrittenMoves x, int at) {
        int place = at < x.count(0) ? at : NONE;
        due("BOARD", Talk.tell(x, 0, place, "size " + (4 + at) + " 6;wall 0;"), at);
        due("RULE", Talk.tell(x, 1, place, at == 0 ? "sss" : "ww"), at);
        due("GAME", Talk.tell(x, 2, place, times(2 + at, "say e;")), at);
    }

    private static void asImage0(WrittenMoves x) {
        due("counts", x.count(0) * 100 + x.count(1) * 10 + x.count(2), 111);
        due("FAULT", x.fault(0), 2);
        due("place", x.fault(1), 5);
        due("no more tape", x.end(4), NONE);
        due("tape", x.end(3), 3);
        int[] board = {2, 3, 1, 1, 1};
        for (int what = 0; what < 5; what++) {
            due("BOARD " + what, x.board(0, what), board[what]);
        }
        due("PIT", x.field(0, 0), 2);
        due("WALL", x.field(0, 1), 1);
        due("man", x.field(0, 5), 10);
        due("SIDE", x.man(0, 0, 0), 1);
        due("FIELD", x.man(0, 0, 1), 5);
        due("RULE", x.rule(0, NONE) * 100 + x.rule(0, 0) * 10 + x.rule(0, 1), 210);
        due("MOVES", x.move(0, NONE, 0), 2);
        due("MOVE 0", x.move(0, 0, 0), 1);
        due("MOVE 1", x.move(0, 1, 0), NONE);
        due("its SIGN", x.move(0, 1, 10), 10);
    }

    /** A call that asks, or that is refused, leaves all that is told as it was. */
    static void nothingChanges() {
        WrittenMoves x = playing("size 2 3;man 0 0;man 1 5;pit 3;", "say n go 3;", "aq", "e", "nt");
        tellAll(x, "size 6 6;man 1 0;man 0 35;", null, "say xwt go 4;say q;");
        due("a FAULT", Talk.tell(x, 0, 0, "size 2 7;"), NONE);
        Talk.put(x, 0, "say uq go 7;");
        due("image", x.image(1), true);
        long all = allTold(x);
        int[] odd = {Integer.MIN_VALUE, -2, -1, 0, 1, 2, 3, 4, 30, 36, Integer.MAX_VALUE};
        for (int one : odd) {
            refused(x, one);
            due("behind refused calls by " + one, allTold(x), all);
            for (int two : odd) {
                asking(x, one, two);
            }
            due("behind asking by " + one, allTold(x), all);
        }
        due("the image stays", x.again(1), true);
        due("behind its image", allTold(x), all);
        due("tape", x.text(2, 0), 0);
        due("told by it", x.move(0, 0, 0), 7);
    }

    private static void refused(WrittenMoves x, int number) {
        if (number < 0 || number > 12) {
            due("end " + number, x.end(number), NONE);
        }
        if (number < 0 || number > 2) {
            due("image " + number, x.image(number), false);
            due("count " + number, x.count(number), -2);
        }
        // 0 is taken for the tape, 1 is asked for at the end.
        if (number != 0 && number != 1) {
            due("again " + number, x.again(number), false);
        }
    }

    private static void asking(WrittenMoves x, int one, int two) {
        x.fault(one);
        x.board(one, two);
        x.field(one, two);
        x.rule(one, two);
        x.stop(one, two);
        for (int k = 0; k < 2; k++) {
            x.man(k, one, two);
            x.ends(k, one, two);
            x.move(k, one, two);
            x.brave(k, one, two);
            x.loses(k, one, two);
            x.alike(k, one, two);
            x.meanings(k, one, two, k == 0);
            x.soonest(k, one, two);
            x.ways(k, k, one, two);
            x.path(k, k, 0, one, two);
            x.state(k, k, one, two);
            x.may(k, k, one, two);
            x.fatal(k, k, one, two > 0);
            x.binds(k, k, one, two);
            x.drive(k, k, one, two);
            x.shorter(k, k, one, two);
            x.wins(k, k, 1, one, two);
            x.drawn(k, one, 30, two);
        }
    }

    /** One number of all that can be asked of what is told; the tape, kept by an image, is read, too. */
    private static long allTold(WrittenMoves x) {
        long all = x.fault(0) * 31L + x.fault(1);
        for (int k = 0; k < 3; k++) {
            all = all * 31 + x.count(k);
            for (int what = 0; what < 36; what++) {
                all = all * 31 + x.board(k, what);
                all = all * 31 + x.field(k, what);
                all = all * 31 + x.rule(k, what);
                all = all * 31 + x.man(k, what, 0) + 7 * x.man(k, what, 1);
                for (int i = 0; i < 12; i++) {
                    all = all * 31 + x.move(k, i - 1, what);
                }
            }
        }
        due("image for the tape", x.image(0), true);
        due("tape", x.end(13), NONE);
        all = all * 31 + x.text(2, 1);
        for (int what = 0; what < 15; what++) {
            all = all * 31 + x.move(1, 0, what);
        }
        due("again for the tape", x.again(0), true);
        due("tape", x.end(12), 12);
        return all;
    }
}
