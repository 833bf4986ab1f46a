/** Each promise of the document by hand: ordinary calls, edges, wrong inputs. */
public final class PromiseTest {
    private static final int NONE = -1;

    public static void main(String[] args) {
        promise1();
        promise2And3();
        promise4();
        promise5();
        places();
        promise6();
        promise7And8();
        promise9();
        promise10();
        prefixes();
        promise11();
        promise12();
        promise13();
        promise14And15();
        nextMen();
        promise16();
        promise17();
        promise18();
        promise19();
        promise20();
        promise21();
        promise22();
        promise23();
        promise24();
        promise25And26();
        promise27();
        promise28();
        promise29And30();
        Talk.finish("PromiseTest");
    }

    static void due(String call, long got, long want) {
        Talk.due(call, got, want);
    }

    static void due(String call, boolean got, boolean want) {
        Talk.due(call, got, want);
    }

    static void promise1() {
        due("NONE", WrittenMoves.NONE, -1);
        WrittenMoves x = new WrittenMoves();
        for (int sort = 0; sort < 3; sort++) {
            due("1 count", x.count(sort), 0);
            due("1 again", x.again(sort), false);
        }
        due("1 fault", x.fault(0), 0);
        due("1 place", x.fault(1), NONE);
        due("1 tape", x.end(1), NONE);
        due("1 board", x.board(0, 0), NONE);
        due("1 rule", x.rule(0, NONE), -2);
        due("1 move", x.move(0, NONE, 0), -2);
    }

    static void promise2And3() {
        WrittenMoves x = new WrittenMoves();
        due("3 end of none", x.end(0), 0);
        due("3 end below", x.end(-1), NONE);
        for (int k = 1; k <= 30; k++) {
            due("2 feed", x.feed(0x6e6e6e6e, 0x6e6e6e6e, 0x6e6e6e6e, 0x6e6e6e6e, 0x6e6e6e6e), 20 * k);
        }
        due("2 feed full", x.feed(0, 0, 0, 0, 0), NONE);
        due("3 end over", x.end(601), NONE);
        due("3 end of all", x.end(600), 600);
        due("3 end", x.end(581), 581);
        due("2 feed over", x.feed(0, 0, 0, 0, 0), NONE);
        due("3 end", x.end(580), 580);
        due("2 feed to the brim", x.feed(0x80818283, -1, 0, 0, 0), 600);
        due("3 end smallest", x.end(Integer.MIN_VALUE), NONE);
        due("3 end keeps", x.end(4), 4);
        due("3 no more there", x.end(5), NONE);
        due("2 highest first", x.text(1, NONE), 0);
        due("2 read", x.rule(0, NONE), 4);
        due("3 empty", x.end(1), NONE);
    }

    static void promise4() {
        WrittenMoves x = new WrittenMoves();
        due("4 in place of none", Talk.tell(x, 0, 0, ""), -2);
        due("4 board", Talk.tell(x, 0, NONE, ""), 0);
        due("4 board", Talk.tell(x, 0, NONE, "size 2 2;"), 1);
        due("4 third board", Talk.tell(x, 0, NONE, "size 2"), -2);
        due("4 no text read", x.fault(0), 0);
        due("4 no place", x.fault(1), NONE);
        due("4 tape empty", x.end(1), NONE);
        due("4 in place", Talk.tell(x, 0, 0, "size 5 6;"), 0);
        due("4 width", x.board(0, 0), 5);
        due("4 fault", Talk.tell(x, 0, 0, "size 5"), NONE);
        due("4 tape empty", x.end(1), NONE);
        due("4 fault", x.fault(0), 1);
        due("4 kept", x.board(0, 1), 6);
        due("4 -2 clears the fault", x.text(3, NONE), -2);
        due("4 fault", x.fault(0), 0);
        due("4 sort", Talk.tell(x, -1, NONE, "n"), -2);
        due("4 tape empty", x.end(1), NONE);
        for (int k = 0; k < 3; k++) {
            due("4 rule", Talk.tell(x, 1, NONE, "n"), k);
        }
        due("4 fourth rule", Talk.tell(x, 1, NONE, "n"), -2);
        due("4 behind", Talk.tell(x, 1, 3, "n"), -2);
        due("4 below", Talk.tell(x, 1, -2, "n"), -2);
        due("4 rule in place", Talk.tell(x, 1, 2, "se"), 2);
        due("4 game", Talk.tell(x, 2, NONE, ""), 0);
        due("4 game", Talk.tell(x, 2, NONE, "say n;"), 1);
        due("4 third game", Talk.tell(x, 2, NONE, "say n;"), -2);
        due("4 far", Talk.tell(x, 2, Integer.MAX_VALUE, "say n;"), -2);
        due("4 counts", x.count(0) * 100 + x.count(1) * 10 + x.count(2), 232);
    }

    static void promise5() {
        fault(0, "size 1 2;", 2, 5);
        fault(0, "size 2 7;", 2, 7);
        fault(0, "wall;", 1, 4);
        fault(0, "wall 36;", 2, 5);
        fault(0, "pit 16;", 4, 7);
        fault(0, "man 2 0;", 2, 4);
        fault(0, "man 0 0;man 1 0;", 4, 16);
        fault(0, "man 0 0;wall 0;  ", 4, 17);
        fault(0, "man 0 0;pit 0;", 4, 14);
        fault(0, "man 0 0;man 0 1;man 0 2;man 0 3;man 0 4;man 0 5;man 0 6;", 3, 48);
        fault(0, "man 0 0;man 0 1;man 0 2;man 0 3;man 0 4;man 9 5;man 0 6;", 2, 44);
        fault(0, "man 0 0;man 0 1;man 0 2;man 0 3;man 0 4;man 0 5;man 9 6;", 3, 48);
        fault(0, "wall 40;wall x;", 1, 13);
        fault(0, "man 1 16;size 5 4;", 0, -1);
        fault(0, "size 6 6;size 2 2;wall 4;", 4, 25);
        fault(0, "wall 3;pit 3;", 0, -1);
        fault(1, "", 1, 0);
        fault(1, "  ", 1, 2);
        fault(1, "nn nn", 1, 3);
        fault(1, "k", 1, 0);
        fault(1, "nnnnnnnnnn", 1, 0);
        fault(1, "neqswatxu", 0, -1);
        fault(1, "qq", 1, 0);
        fault(1, "n;", 1, 1);
        fault(1, "3", 1, 0);
        fault(2, "say;", 1, 3);
        fault(2, "say k;", 1, 4);
        fault(2, "say n go;", 1, 8);
        fault(2, "say n go 36;", 2, 9);
        fault(2, "go 3;", 1, 0);
        fault(2, "say n go 3", 1, 10);
        fault(2, "", 0, -1);
        StringBuilder long31 = new StringBuilder();
        for (int k = 0; k < 31; k++) {
            long31.append("say n;");
        }
        fault(2, long31.toString(), 3, 180);
        fault(2, long31.substring(0, 180), 0, -1);
        fault(2, long31.substring(0, 183), 1, 183);
        WrittenMoves x = new WrittenMoves();
        due("5 other", x.fault(2), NONE);
        due("5 other", x.fault(-1), NONE);
    }

    /** Which byte or token is the first with which no text goes on. */
    static void places() {
        fault(0, "size4 4;wall3 5;", 0, -1);
        fault(0, "\n size\n4 4 ;\n", 0, -1);
        fault(0, "size 004 4;", 1, 5);
        fault(0, "size 4 04;", 0, -1);
        fault(0, "sizes 4 4;", 1, 0);
        fault(0, "Size 4 4;", 1, 0);
        fault(0, "size\t4 4;", 1, 4);
        fault(0, "size 4 4", 1, 8);
        fault(0, "size 4 4 \n", 1, 10);
        fault(0, "size 4;", 1, 6);
        fault(0, "size 4 4 4;", 1, 9);
        fault(0, "man 0;", 1, 5);
        fault(0, "wall 1 2 3 man 0 4;", 1, 11);
        fault(0, ";", 1, 0);
        fault(0, "pit 1;;", 1, 6);
        fault(0, "wall 1\u00e9", 1, 6);
        fault(2, "say n go 5 6;", 1, 11);
        fault(2, "saynn;", 1, 0);
        fault(2, "say go;", 1, 4);
        fault(2, "say nq3;", 1, 6);
        fault(2, "say n 5;", 1, 6);
        fault(2, "say n go 123;", 1, 9);
        fault(1, "\nneq \n", 0, -1);
    }

    static void fault(int sort, String text, int fault, int place) {
        WrittenMoves x = new WrittenMoves();
        due("5 text " + text, Talk.tell(x, sort, NONE, text), fault == 0 ? 0 : NONE);
        due("5 fault of " + text, x.fault(0), fault);
        due("5 place of " + text, x.fault(1), place);
        due("5 count behind " + text, x.count(sort), fault == 0 ? 1 : 0);
    }

    static void promise6() {
        WrittenMoves x = Talk.with("");
        int[] plain = {4, 4, 0, 0, 0};
        for (int what = 0; what < 5; what++) {
            due("6 board " + what, x.board(0, what), plain[what]);
        }
        x = Talk.with("size 6 2;wall 1 2 1;pit 3 4 2;man 1 0;size 5 3;man 0 14;wall 1;");
        int[] told = {5, 3, 2, 2, 2};
        for (int what = 0; what < 5; what++) {
            due("6 board " + what, x.board(0, what), told[what]);
        }
        walledPits("wall 1;pit 1;", 1, 0);
        walledPits("pit 1;wall 1;", 1, 0);
        walledPits("pit 1 2 3;wall 3 4;pit 4 5;wall 2;", 3, 2);
        due("6 other", x.board(0, 5), NONE);
        due("6 other", x.board(0, -1), NONE);
        due("6 none", x.board(1, 0), NONE);
        due("6 none", x.board(-1, 0), NONE);
    }

    static void walledPits(String board, int walls, int pits) {
        WrittenMoves x = Talk.with(board);
        due("6 walls of " + board, x.board(0, 3), walls);
        due("6 pits of " + board, x.board(0, 4), pits);
        due("7 walled pit of " + board, x.field(0, 1), board.contains("wall 1") ? 1 : 2);
    }

    static void promise7And8() {
        WrittenMoves x = Talk.with("size 3 3;wall 4 2;pit 6 2;man 0 0;man 1 8;");
        int[] fields = {10, 0, 1, 0, 1, 0, 2, 0, 11};
        for (int field = 0; field < 9; field++) {
            due("7 field " + field, x.field(0, field), fields[field]);
        }
        due("7 none", x.field(0, 9), NONE);
        due("7 none", x.field(0, -1), NONE);
        due("7 none", x.field(1, 0), NONE);
        due("8 side", x.man(0, 1, 0), 1);
        due("8 field", x.man(0, 1, 1), 8);
        due("8 side", x.man(0, 0, 0), 0);
        due("8 none", x.man(0, 2, 0), NONE);
        due("8 none", x.man(0, -1, 0), NONE);
        due("8 none", x.man(1, 0, 0), NONE);
        due("8 other", x.man(0, 0, 2), NONE);
    }

    static void promise9() {
        WrittenMoves x = Talk.with("", "neswatxub", "gq");
        due("9 length", x.rule(0, NONE), 9);
        for (int k = 0; k < 9; k++) {
            due("9 sign", x.rule(0, k), k);
        }
        due("9 sign", x.rule(1, 0), 9);
        due("9 sign", x.rule(1, 1), 10);
        due("9 none", x.rule(1, 2), -2);
        due("9 none", x.rule(1, -2), -2);
        due("9 none", x.rule(2, NONE), -2);
        due("9 none", x.rule(-1, NONE), -2);
    }

    static long ends(String board, int man, String rule) {
        return Talk.with(board, rule).ends(0, man, 0);
    }

    static void promise10() {
        String board = "size 3 3;man 0 0;man 1 8;wall 4;pit 6;";
        due("10 n", ends(board, 0, "n"), 0);
        due("10 e", ends(board, 0, "e"), Talk.bits(1));
        due("10 et", ends(board, 0, "et"), Talk.bits(2));
        due("10 fall", ends(board, 0, "ssssnnnn"), Talk.bits(6));
        due("10 wall", ends(board, 0, "es"), 0);
        due("10 take", ends(board, 0, "eesswwww"), Talk.bits(8));
        due("10 take by t", ends(board, 0, "eest"), Talk.bits(8));
        due("10 t without way", ends(board, 0, "t"), 0);
        due("10 own field", ends(board, 0, "sn"), Talk.bits(0));
        due("10 any", ends(board, 0, "xa"), Talk.bits(0, 2, 6));
        due("10 q is nothing", ends(board, 0, "qe"), Talk.bits(1));
        due("10 xq is nothing", ends(board, 0, "xqe"), Talk.bits(1));
        due("10 own man", ends("size 2 2;man 0 0;man 0 1;", 0, "a"), Talk.bits(2));
        due("10 b", ends("size 3 2;man 0 0;man 1 2;", 0, "b"), 0);
        due("10 b beside", ends("size 3 2;man 0 0;man 1 2;", 0, "eb"), Talk.bits(1));
        due("10 g beside", ends("size 3 2;man 0 0;man 1 2;", 0, "eg"), 0);
        due("10 g", ends("size 3 2;man 0 0;man 1 2;", 0, "g"), Talk.bits(0));
        due("10 no round the edge", ends("size 3 2;man 0 2;man 1 3;", 0, "b"), 0);
        due("10 no round the edge", ends("size 3 2;man 0 2;man 1 3;", 0, "e"), 0);
        WrittenMoves x = Talk.with(board, "n");
        due("10 none", x.ends(1, 0, 0), NONE);
        due("10 none", x.ends(0, 2, 0), NONE);
        due("10 none", x.ends(0, 0, 1), NONE);
        due("10 last field", ends("size 6 6;man 0 0;", 0, "etst"), Talk.bits(35));
    }

    /** What x and u do, and what makes them nothing. */
    static void prefixes() {
        String board = "size 6 6;man 0 14;wall 13;";
        due("x", ends(board, 0, "xn"), Talk.bits(2));
        due("x x", ends(board, 0, "xxn"), Talk.bits(2));
        due("x twice over", ends(board, 0, "xnxe"), Talk.bits(4));
        due("x at the end", ends(board, 0, "nx"), Talk.bits(8));
        due("u at the end", ends(board, 0, "nu"), Talk.bits(8));
        due("alone", ends(board, 0, "x"), Talk.bits(14));
        due("u can", ends(board, 0, "ue"), Talk.bits(15));
        due("u can't", ends(board, 0, "uw"), Talk.bits(14));
        due("u then more", ends(board, 0, "uwe"), Talk.bits(15));
        due("x ahead of u is nothing", ends(board, 0, "xue"), Talk.bits(15));
        due("u ahead of x is nothing", ends(board, 0, "uxw"), 0);
        due("ut without way", ends(board, 0, "ut"), Talk.bits(14));
        due("ut with way", ends(board, 0, "nut"), Talk.bits(2));
        due("t of no step", ends(board, 0, "xntt"), Talk.bits(2));
        due("uw keeps way", ends(board, 0, "nsuwt"), Talk.bits(32));
        due("ua must, if it can", ends("size 2 2;man 0 0;wall 1;", 0, "ua"), Talk.bits(2));
        due("ua shut in", ends("size 2 2;man 0 0;wall 1 2;", 0, "ua"), Talk.bits(0));
        due("ub", ends(board, 0, "ub"), Talk.bits(14));
        due("xb", ends("size 2 2;man 0 0;man 1 1;", 0, "xb"), Talk.bits(0));
    }

    static void promise11() {
        WrittenMoves x = Talk.with("size 3 3;man 0 4;man 1 8;", "xa", "aaaaaaaaa", "ubua");
        due("11 back", x.ways(0, 0, 0, 4), 4);
        due("11 corner", x.ways(0, 0, 0, 0), 2);
        due("11 taken", x.ways(0, 0, 0, 8), 2);
        due("11 no end", x.ways(0, 0, 0, 1), 0);
        due("11 u is one way", x.ways(0, 0, 2, 5), 1);
        due("11 none", x.ways(0, 0, 0, 9), NONE);
        due("11 none", x.ways(0, 0, 0, -1), NONE);
        due("11 none", x.ways(0, 2, 0, 0), NONE);
        due("11 none", x.ways(0, 0, 3, 0), NONE);
        due("11 none", x.ways(1, 0, 0, 0), NONE);
        x = Talk.with("size 6 6;man 0 14;", "xaa");
        due("11 many", x.ways(0, 0, 0, 8), 9);
    }

    static void promise12() {
        WrittenMoves x = Talk.with("size 3 3;man 0 0;man 1 8;", "xaxa", "atat", "aaaa");
        int[] first = {0, 1, 2, 5, 8};
        due("12 length", x.path(0, 0, 0, 8, NONE), 5);
        for (int k = 0; k < 5; k++) {
            due("12 field " + k, x.path(0, 0, 0, 8, k), first[k]);
        }
        due("12 behind", x.path(0, 0, 0, 8, 5), NONE);
        due("12 below", x.path(0, 0, 0, 8, -2), NONE);
        due("12 no end", x.path(0, 0, 0, 1, NONE), NONE);
        due("12 by t", x.path(0, 0, 1, 8, NONE), 5);
        due("12 by t", x.path(0, 0, 1, 8, 3), 5);
        due("12 own", x.path(0, 0, 2, 0, NONE), 5);
        due("12 own", x.path(0, 0, 2, 0, 3), 1);
        due("12 none", x.path(0, 0, 0, 9, NONE), NONE);
        due("12 none", x.path(0, 2, 0, 8, NONE), NONE);
        due("12 none", x.path(1, 0, 0, 8, NONE), NONE);
        due("12 none", x.path(0, 0, 3, 8, NONE), NONE);
        x = Talk.with("size 6 2;man 0 0;pit 3;", "uaauat", "x");
        due("12 of no step", x.path(0, 0, 1, 0, NONE), 1);
        due("12 of no step", x.path(0, 0, 1, 0, 0), 0);
        due("12 fewer first", x.path(0, 0, 0, 3, NONE), 4);
    }

    static void promise13() {
        WrittenMoves x = new WrittenMoves();
        due("13 game", Talk.tell(x, 2, NONE, "say n go 5;say sq;"), 0);
        due("13 moves", x.move(0, NONE, 0), 2);
        due("13 other", x.move(0, NONE, 1), -2);
        due("13 field", x.move(0, 0, 0), 5);
        due("13 no field", x.move(0, 1, 0), NONE);
        due("13 signs", x.move(0, 1, 1), 2);
        due("13 sign", x.move(0, 1, 10), 2);
        due("13 sign", x.move(0, 1, 11), 10);
        due("13 behind", x.move(0, 1, 12), -2);
        due("13 other", x.move(0, 1, 2), -2);
        due("13 other", x.move(0, 1, 9), -2);
        due("13 other", x.move(0, 1, -1), -2);
        due("13 none", x.move(0, 2, 0), -2);
        due("13 none", x.move(0, -2, 0), -2);
        due("13 none", x.move(1, NONE, 0), -2);
    }

    static WrittenMoves playing(String board, String game, String... rules) {
        WrittenMoves x = Talk.with(board, rules);
        due("game " + game, Talk.tell(x, 2, NONE, game), 0);
        return x;
    }

    static void state(WrittenMoves x, int n, int... answers) {
        int[] asked = {0, 1, 2, 3, 20, 21, 10, 11, 12, 13, 14, 15};
        for (int k = 0; k < answers.length; k++) {
            due("15 state " + n + " " + asked[k], x.state(0, 0, n, asked[k]), answers[k]);
        }
    }

    static void promise14And15() {
        String board = "size 3 3;man 0 0;man 1 8;wall 4;pit 6;";
        WrittenMoves x = playing(board, "say n go 5;say sq go 0;say n go 2;say ss go 6;say a go 1;");
        due("14 over", x.stop(0, 0), 4);
        state(x, 0, 0, 0, 1, 1, 0, 1, 0, 8, -2);
        state(x, 1, 1, 0, 1, 1, 0, 1, 0, 5, -2);
        state(x, 2, 0, 0, 1, 1, 0, 1, 0, 5, -2);
        state(x, 3, 1, 0, 1, 1, 0, 1, 0, 2, -2);
        state(x, 4, 0, 1, 0, 1, NONE, 1, NONE, 2, -2);
        state(x, 5, -2, -2);
        state(x, -1, -2);
        for (int what : new int[] {-1, 4, 9, 12, 16, 19, 22, 30}) {
            due("15 other " + what, x.state(0, 0, 0, what), -2);
        }
        due("14 none", x.stop(1, 0), NONE);
        due("14 none", x.stop(0, 1), NONE);
        due("15 none", x.state(1, 0, 0, 0), -2);
        due("15 none", x.state(0, 1, 0, 0), -2);
        due("14 all", playing(board, "say n go 5;").stop(0, 0), 1);
        due("14 empty", playing(board, "").stop(0, 0), 0);
        due("14 wrong field", playing(board, "say n go 4;").stop(0, 0), 0);
        due("14 far field", playing(board, "say n go 35;").stop(0, 0), 0);
        due("14 no field though ends", playing(board, "say n;").stop(0, 0), 0);
        due("14 field though none", playing(board, "say s go 8;").stop(0, 0), 0);
        due("14 over at first", playing("man 0 0;", "say n;").stop(0, 0), 0);
        due("14 nobody", playing("", "say n;").stop(0, 0), 0);
        state(playing("man 1 5;", ""), 0, 0, 1, 0, 1, NONE, 0, 5);
        x = playing("size 2 2;man 0 0;man 1 1;man 1 3;", "say w go 0;say w go 0;");
        due("14 taken", x.stop(0, 0), 1);
        state(x, 1, 1, 1, 0, 2, NONE, 2, NONE, 0, 3);
        x = playing("size 2 2;man 0 0;man 1 1;man 1 3;", "say e;say n go 0;");
        due("14 can't obey", x.stop(0, 0), 1);
        state(x, 1, 1, 1, 0, 2, NONE, 1, NONE, 1, 3);
    }

    /** Who is NEXT behind one that went, one that is gone, one that could not obey. */
    static void nextMen() {
        String board = "size 6 6;man 0 0;man 1 35;man 0 5;man 1 30;man 0 15;man 1 20;";
        WrittenMoves x = playing(board, "say x go 35;say x go 0;say x go 30;say n;"
            + "say x go 35;say x go 5;say n go 24;");
        due("next stop", x.stop(0, 0), 7);
        state(x, 1, 1, 0, 3, 3, 0, 3);
        state(x, 2, 0, 0, 3, 3, 2, 3);
        state(x, 3, 1, 0, 3, 3, 2, 5);
        state(x, 4, 0, 0, 3, 2, 2, 1, 0, 35, 5, 30, 15, NONE);
        x = playing(board, "say x go 35;say s go 6;say x go 30;say n;say n;", "u");
        due("next stop", x.stop(0, 0), 4);
        x = playing("size 3 2;man 0 0;man 0 1;man 1 2;man 1 5;", "say w go 1;say x go 0;say x go 5;say e go 1;");
        due("next taken", x.stop(0, 0), 4);
        state(x, 1, 1, 0, 1, 2, 0, 3, 0, NONE, 1, 5);
        state(x, 4, 0, 0, 1, 1, 0, 3, 1, NONE, NONE, 5);
    }

    static void promise16() {
        WrittenMoves x = playing("size 6 6;man 0 14;man 1 35;", "say xn go 23;say s go 20;say xqn go 29;",
            "q", "uq", "xqe");
        due("16 no q yet", x.may(0, 0, 0, 0), Talk.bits(35));
        due("16 q", x.may(0, 0, 1, 0), Talk.bits(2));
        due("16 xq", x.may(0, 0, 1, 2), 0);
        due("16 uq", x.may(0, 0, 1, 1), Talk.bits(2));
        due("16 xq", x.may(0, 0, 2, 2), 0);
        due("16 q south", x.may(0, 0, 2, 0), Talk.bits(29));
        due("16 q's own q is nothing", x.may(0, 0, 3, 0), Talk.bits(14));
        due("16 xq of that", x.may(0, 0, 3, 2), Talk.bits(9));
        due("16 none", x.may(0, 0, 4, 0), NONE);
        due("16 none", x.may(0, 0, -1, 0), NONE);
        due("16 none", x.may(0, 0, 0, 3), NONE);
        due("16 none", x.may(1, 0, 0, 0), NONE);
        due("16 none", x.may(0, 1, 0, 0), NONE);
        // From 3 q can be and takes him to 0; from 7 it can't, and he stays there.
        x = playing("size 3 3;man 0 6;man 1 8;", "say ng go 5;", "auq", "aq");
        due("16 each path by itself", x.may(0, 0, 1, 0), Talk.bits(0, 7));
        due("16 without u", x.may(0, 0, 1, 1), Talk.bits(0));
        // He takes on 7, falls from 1 to 0, goes from 5 to 4, and can't from 3: all these are ENDS.
        x = playing("size 3 3;man 0 4;man 1 8;pit 0;", "say w go 7;", "auq");
        due("16 what ended ahead of q stays", x.may(0, 0, 1, 0), Talk.bits(0, 3, 4, 7));
        // Of a longer GAME in its place before nothing is left.
        x = playing("size 6 6;man 0 14;man 1 35;", "say w go 34;say n go 8;say n go 28;", "n");
        due("16 a shorter game", Talk.tell(x, 2, 0, "say w go 34;"), 0);
        due("16 stop", x.stop(0, 0), 1);
        due("16 last state", x.may(0, 0, 1, 0), Talk.bits(8));
        for (int n = 2; n <= 4; n++) {
            due("16 behind the game", x.may(0, 0, n, 0), NONE);
            due("15 behind the game", x.state(0, 0, n, 0), -2);
            due("17 behind the game", x.fatal(0, 0, n - 1, false), NONE);
        }
        due("16 over", playing("man 0 0;", "", "n").may(0, 0, 0, 0), NONE);
    }

    static void promise17() {
        WrittenMoves x = playing("size 3 3;man 0 0;man 1 8;wall 4;pit 6;", "say n go 5;say es;say x go 8;");
        due("17 place", x.fatal(0, 0, 0, false), NONE);
        due("17 place", x.fatal(0, 0, 1, false), 0);
        due("17 sign", x.fatal(0, 0, 1, true), 2);
        x = playing("size 3 3;man 0 0;man 1 8;pit 6;", "say wb go 7;say n;", "n");
        due("17 a move that can't be", x.stop(0, 0), 0);
        due("17 place of a move that can't be", x.fatal(0, 0, 0, false), NONE);
        due("17 sign of a move that can't be", x.fatal(0, 0, 0, true), NONE);
        due("17 behind stop", x.fatal(0, 0, 1, false), NONE);
        x = playing("size 3 3;man 0 0;man 1 8;pit 6;", "say wb;say n;say n go 5;", "n");
        due("17 a move without a field can be", x.stop(0, 0), 1);
        due("17 place ahead of stop", x.fatal(0, 0, 0, false), 1);
        due("17 sign ahead of stop", x.fatal(0, 0, 0, true), 3);
        due("17 at stop", x.fatal(0, 0, 1, false), NONE);
        due("17 behind stop", x.fatal(0, 0, 2, false), NONE);
        due("17 far", x.fatal(0, 0, Integer.MAX_VALUE, false), NONE);
        due("17 far below", x.fatal(0, 0, Integer.MIN_VALUE, false), NONE);
        due("17 none", x.fatal(0, 0, 2, false), NONE);
        due("17 none", x.fatal(0, 0, -1, false), NONE);
        due("17 none", x.fatal(1, 0, 0, false), NONE);
        due("17 none", x.fatal(0, 1, 0, true), NONE);
        x = playing("size 2 2;man 0 0;man 1 3;pit 2;", "say q go 3;");
        due("17 in place of q", x.fatal(0, 0, 0, false), 0);
        due("17 in place of q", x.fatal(0, 0, 0, true), 3);
        x = playing("size 2 2;man 0 0;man 1 3;pit 2;", "say w go 2;");
        due("17 another sign", x.fatal(0, 0, 0, true), NONE);
    }

    static void promise18() {
        String board = "size 4 3;man 0 0;man 1 5;pit 9;";
        due("18 beside", playing(board, "say a go 1;").loses(0, 0, 0), true);
        due("18 beside", playing(board, "say a go 4;").loses(0, 0, 0), true);
        due("18 falls", playing(board, "say a go 9;").loses(0, 0, 0), true);
        due("18 safe", playing(board, "say a go 6;").loses(0, 0, 0), false);
        due("18 no safe one", playing(board, "say w go 4;").loses(0, 0, 0), false);
        due("18 no field", playing(board, "say x;say n;").loses(0, 0, 0), false);
        WrittenMoves x = playing(board, "say a go 6;say a go 1;");
        due("18 move 1", x.loses(0, 0, 1), false);
        x = playing(board, "say a go 6;say e go 2;say a go 1;");
        due("18 a move that can't be", x.stop(0, 0), 1);
        due("18 a field that is no end", x.loses(0, 0, 1), false);
        due("18 behind stop", x.loses(0, 0, 2), false);
        x = playing(board, "say a go 5;");
        due("18 to stay where he can't", x.loses(0, 0, 0), false);
        x = playing(board, "say a go 6;say a go 1;");
        due("18 none", x.loses(0, 0, 2), false);
        due("18 far", x.loses(0, 0, Integer.MAX_VALUE), false);
        due("18 far below", x.loses(0, 0, Integer.MIN_VALUE), false);
        due("18 none", x.loses(0, 0, -1), false);
        due("18 none", x.loses(1, 0, 0), false);
        due("18 none", x.loses(0, 1, 0), false);
        due("18 taking is safe", playing("size 3 2;man 0 0;man 1 1;", "say a go 2;").loses(0, 0, 0), false);
        due("18 taking is safe", playing("size 3 2;man 0 0;man 1 1;", "say a go 0;").loses(0, 0, 0), false);
        due("18 below is", playing("size 2 3;man 0 0;man 1 3;", "say a go 1;").loses(0, 0, 0), true);
    }

    static void promise19() {
        String board = "size 6 2;man 1 0;man 0 1;man 0 2;man 0 4;";
        WrittenMoves x = playing(board, "say e go 1;say x go 2;say e go 2;say w go 3;say x go 2;");
        due("19 stop", x.stop(0, 0), 5);
        due("19 one man twice", x.brave(0, 0, 1), 1);
        due("19 none", x.brave(0, 0, 0), 0);
        due("19 side", x.brave(0, 0, 2), NONE);
        due("19 side", x.brave(0, 0, -1), NONE);
        due("19 none", x.brave(1, 0, 0), NONE);
        due("19 none", x.brave(0, 1, 0), NONE);
        x = playing(board, "say e go 1;say w go 1;");
        due("19 taken behind", x.brave(0, 0, 1), 1);
        due("19 taker", x.brave(0, 0, 0), 1);
        due("19 not behind stop", playing(board, "say e go 9;say w go 1;").brave(0, 0, 0), 0);
    }

    static void found(String call, WrittenMoves x, int man, int sort, String want) {
        Talk.dueWord(call, Talk.word(what -> x.binds(0, man, sort, what)), want);
    }

    static void promise20() {
        WrittenMoves x = Talk.with("size 3 3;man 0 0;man 1 8;wall 4;pit 6;");
        found("20 bind", x, 0, 0, "n");
        found("20 doom", x, 0, 1, "ss");
        found("20 hunt", x, 0, 2, "eess");
        x = Talk.with("size 3 3;man 0 4;man 1 5;pit 1;");
        found("20 bind", x, 0, 0, "t");
        found("20 doom", x, 0, 1, "n");
        found("20 hunt", x, 0, 2, "e");
        found("20 hunt", x, 1, 2, "w");
        due("20 behind", x.binds(0, 0, 0, 2), NONE);
        due("20 other", x.binds(0, 0, 0, -1), NONE);
        due("20 sort", x.binds(0, 0, 3, 0), NONE);
        due("20 sort", x.binds(0, 0, -1, 0), NONE);
        due("20 none", x.binds(0, 2, 0, 0), NONE);
        due("20 none", x.binds(1, 0, 0, 0), NONE);
        x = Talk.with("size 2 2;man 0 0;");
        found("20 no pit", x, 0, 1, "-1");
        found("20 no other", x, 0, 2, "-1");
    }

    static void promise21() {
        WrittenMoves x = Talk.with("size 3 3;man 0 0;man 1 8;wall 4;pit 6;");
        Talk.dueWord("21 to 0", Talk.word(what -> x.drive(0, 0, 0, what)), "x");
        Talk.dueWord("21 to 1", Talk.word(what -> x.drive(0, 0, 1, what)), "e");
        Talk.dueWord("21 to 2", Talk.word(what -> x.drive(0, 0, 2, what)), "ee");
        Talk.dueWord("21 to 4", Talk.word(what -> x.drive(0, 0, 4, what)), "-1");
        Talk.dueWord("21 to 8", Talk.word(what -> x.drive(0, 0, 8, what)), "eess");
        Talk.dueWord("21 to 9", Talk.word(what -> x.drive(0, 0, 9, what)), "-1");
        due("21 none", x.drive(0, 0, -1, 0), NONE);
        due("21 none", x.drive(0, 2, 0, 0), NONE);
        due("21 none", x.drive(1, 0, 0, 0), NONE);
        due("21 other", x.drive(0, 0, 1, 2), NONE);
    }

    static void promise22() {
        WrittenMoves x = Talk.with("size 3 3;man 0 0;man 1 8;wall 4;pit 6;", "eewwxexu", "nnnnnnnnn", "xsxqu");
        Talk.dueWord("22", Talk.word(what -> x.shorter(0, 0, 0, what)), "ee");
        Talk.dueWord("22 none", Talk.word(what -> x.shorter(0, 0, 1, what)), "n");
        Talk.dueWord("22 q", Talk.word(what -> x.shorter(0, 0, 2, what)), "ss");
        due("22 other", x.shorter(0, 0, 0, 3), NONE);
        due("22 none", x.shorter(0, 0, 3, 0), NONE);
        due("22 none", x.shorter(0, 2, 0, 0), NONE);
        due("22 none", x.shorter(1, 0, 0, 0), NONE);
        WrittenMoves y = Talk.with("size 6 6;man 0 0;", "xexexsxse");
        Talk.dueWord("22 no short one", Talk.word(what -> y.shorter(0, 0, 0, what)), "-1");
    }

    static void promise23() {
        WrittenMoves x = Talk.with("size 3 3;man 1 4;", "xn", "nn", "nt");
        due("23 the same", x.alike(0, 0, 1), true);
        due("23 itself", x.alike(0, 2, 2), true);
        due("23 unlike", x.alike(0, 0, 2), false);
        due("23 none", x.alike(0, 0, 3), false);
        due("23 none", x.alike(0, -1, 0), false);
        due("23 none", x.alike(1, 0, 0), false);
        x = Talk.with("size 2 2;man 1 0;wall 1 2 3;", "n", "s");
        due("23 nowhere to stand", x.alike(0, 0, 1), true);
        x = Talk.with("size 2 2;man 0 0;wall 1;", "n", "nw");
        due("23 side 0 blocks", x.alike(0, 0, 1), true);
        x = Talk.with("size 2 2;man 1 0;wall 1;", "n", "nn");
        due("23 side 1 is taken", x.alike(0, 0, 1), true);
        x = Talk.with("size 2 2;man 0 0;man 1 3;", "n", "t");
        due("23 all others stand", x.alike(0, 0, 1), true);
        x = Talk.with("size 2 2;man 1 0;man 1 3;", "n", "t");
        due("23 and can be taken", x.alike(0, 0, 1), false);
    }

    static void promise24() {
        WrittenMoves x = Talk.with("size 2 2;man 0 0;");
        due("24 n 1", x.meanings(0, 0, 1, false), 5);
        due("24 reach 1", x.meanings(0, 0, 1, true), 3);
        due("24 reach 2", x.meanings(0, 0, 2, true), 4);
        due("24 n 2", x.meanings(0, 0, 2, false), 7);
        due("24 other n", x.meanings(0, 0, 0, false), NONE);
        due("24 other n", x.meanings(0, 0, 5, false), NONE);
        due("24 none", x.meanings(0, 1, 1, false), NONE);
        due("24 none", x.meanings(1, 0, 1, true), NONE);
    }

    static void promise25And26() {
        WrittenMoves x = Talk.with("size 3 2;man 0 0;man 1 4;pit 5;");
        due("25 d 1", x.wins(0, 0, 1, 1, 0), 1);
        due("25 length", x.wins(0, 0, 1, 1, 1), 1);
        due("25 sign", x.wins(0, 0, 1, 1, 2), 1);
        due("25 no second", x.wins(0, 0, 1, 1, 3), NONE);
        due("26 at once", x.soonest(0, 0, 1), 1);
        due("25 side 1", x.wins(0, 1, 1, 1, 0), 0);
        due("25 side 1", x.wins(0, 1, 1, 1, 1), NONE);
        x = Talk.with("size 3 2;man 0 0;man 1 1;pit 5;wall 3;");
        due("25 n 1", x.wins(0, 0, 1, 1, 0), 0);
        due("25 n 2", x.wins(0, 0, 2, 1, 0), 1);
        due("25 first of the sides", x.wins(0, 0, 2, 1, 2) * 10 + x.wins(0, 0, 2, 1, 3), 12);
        due("26 by n 2", x.soonest(0, 0, 2), 1);
        due("25 other n", x.wins(0, 0, 3, 1, 0), -2);
        due("25 other n", x.wins(0, 0, 0, 1, 0), -2);
        due("25 other d", x.wins(0, 0, 1, 0, 0), -2);
        due("25 other d", x.wins(0, 0, 1, 4, 0), -2);
        due("25 side", x.wins(0, 2, 1, 1, 0), -2);
        due("25 side", x.wins(0, -1, 1, 1, 0), -2);
        due("25 none", x.wins(1, 0, 1, 1, 0), -2);
        due("25 other", x.wins(0, 0, 1, 1, 4), -2);
        due("25 other", x.wins(0, 0, 1, 1, -1), -2);
        due("26 none", x.soonest(1, 0, 1), NONE);
        due("26 side", x.soonest(0, 2, 1), NONE);
        due("26 other n", x.soonest(0, 0, 3), NONE);
        x = Talk.with("size 2 2;man 0 0;man 1 3;");
        due("26 by none", x.soonest(0, 0, 2), NONE);
        for (String over : new String[] {"", "man 0 0;", "man 1 0;", "man 0 0;man 0 3;", "pit 1;man 1 2;man 1 0;"}) {
            x = Talk.with(over);
            for (int k = 0; k < 4; k++) {
                due("26 over at first: " + over, x.soonest(0, k % 2, 1 + k / 2), NONE);
                for (int d = 1; d <= 3; d++) {
                    due("25 over at first: " + over, x.wins(0, k % 2, 1 + k / 2, d, 0), 0);
                    for (int what = 1; what <= 3; what++) {
                        due("25 no rule then: " + over, x.wins(0, k % 2, 1 + k / 2, d, what), NONE);
                    }
                }
            }
        }
    }

    static void promise27() {
        String board = "size 6 6;man 0 0;man 1 35;man 0 5;man 1 30;";
        WrittenMoves x = Talk.with(board);
        due("27 moves", x.drawn(0, 1, 30, 30) > 0, true);
        due("27 one", x.drawn(0, 1, 1, 30), 1);
        due("27 writer", x.drawn(0, 1, 1, 0), 1);
        due("27 no moves", x.drawn(0, 1, 0, 30), -2);
        due("27 too many", x.drawn(0, 1, 31, 30), -2);
        due("27 other", x.drawn(0, 1, 1, 31), -2);
        due("27 other", x.drawn(0, 1, 1, 14), -2);
        due("27 none", x.drawn(1, 1, 1, 0), -2);
        due("27 over at first", Talk.with("man 1 0;").drawn(0, 5, 30, 30), 0);
        // 0 draws 12345 >>> 16 = 0: one SIGN; then x = -1043227940, 49617 % 10 = 7, u: he stays;
        // of one END a number is drawn, too.
        due("27 by hand", x.drawn(0, 0, 1, 11), 35);
        due("27 by hand", x.drawn(0, 0, 1, 21), 3);
    }

    static void promise28() {
        WrittenMoves x = Talk.with("", "n", "s");
        due("28 boards", x.count(0), 1);
        due("28 rules", x.count(1), 2);
        due("28 games", x.count(2), 0);
        due("28 other", x.count(3), -2);
        due("28 other", x.count(-1), -2);
    }

    static void promise29And30() {
        WrittenMoves x = playing("size 2 3;man 0 0;", "say n go 2;", "sq");
        Talk.put(x, 0, "say ");
        due("29 image", x.image(2), true);
        due("29 other", x.image(3), false);
        due("29 other", x.image(-1), false);
        due("30 no such", x.again(0), false);
        due("30 no such", x.again(3), false);
        due("30 no such", x.again(-1), false);
        Talk.put(x, 4, "k;");
        due("29 fault", x.text(2, 0), NONE);
        due("29 image of a fault", x.image(0), true);
        due("29 board", Talk.tell(x, 0, 0, "size 4 5;"), 0);
        due("29 rule", Talk.tell(x, 1, NONE, "n"), 1);
        due("29 game", Talk.tell(x, 2, 0, ""), 0);
        due("30 again", x.again(0), true);
        due("30 fault", x.fault(0), 1);
        due("30 place", x.fault(1), 4);
        due("30 tape", x.end(1), NONE);
        due("30 board", x.board(0, 1), 3);
        due("30 rules", x.count(1), 1);
        due("30 game", x.move(0, NONE, 0), 1);
        due("30 again", x.again(2), true);
        due("30 fault", x.fault(0), 0);
        due("30 tape", x.end(4), 4);
        Talk.put(x, 4, "sq go 3;");
        due("30 bytes", x.text(2, NONE), 1);
        due("30 read", x.move(1, 0, 0), 3);
        due("30 images stay", x.again(2), true);
        due("30 games", x.count(2), 1);
    }
}
