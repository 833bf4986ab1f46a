import java.util.Random;

/** Calls of all kinds with any arguments in any state: none may throw, or make objects. */
public final class EdgeTest {
    private static final Random RANDOM = new Random(3);
    private static final int[] ODD = {Integer.MIN_VALUE, Integer.MAX_VALUE, -2, -1, 0, 1, 2, 3, 4, 5, 6, 9, 10, 11,
        20, 21, 30, 31, 35, 36, 63, 64, 255, 600};

    public static void main(String[] args) {
        long answers = 0;
        for (int k = 0; k < 400; k++) {
            WrittenMoves x = new WrittenMoves();
            for (int call = 0; call < 512; call++) {
                answers += call(x, RANDOM.nextInt(34));
            }
        }
        room();
        Talk.due("answers", answers != 0, true);
        Talk.finish("EdgeTest");
    }

    static int any() {
        return RANDOM.nextInt(4) == 0 ? ODD[RANDOM.nextInt(ODD.length)] : RANDOM.nextInt(4);
    }

    static int tell(WrittenMoves x) {
        Naive board = CompareTest.board(6, 6);
        int sort = RANDOM.nextInt(3);
        StringBuilder text = new StringBuilder(sort == 0 ? CompareTest.text(board) : sort == 1
            ? CompareTest.rule(9, true) : "");
        for (int k = RANDOM.nextInt(10); k > 0 && sort == 2; k--) {
            text.append("say ").append(CompareTest.rule(9, true)).append(RANDOM.nextBoolean() ? " go 1;" : ";");
        }
        x.end(0);
        for (int at = 0; at < text.length(); at += 20) {
            int[] numbers = new int[5];
            for (int k = 0; k < 20; k++) {
                numbers[k / 4] |= (at + k < text.length() ? text.charAt(at + k) : 32) << 24 - 8 * (k % 4);
            }
            x.feed(numbers[0], numbers[1], numbers[2], numbers[3], numbers[4]);
        }
        return x.text(sort, RANDOM.nextBoolean() ? -1 : any());
    }

    static long call(WrittenMoves x, int which) {
        boolean odd = RANDOM.nextBoolean();
        switch (which) {
            case 0:
                return x.feed(RANDOM.nextInt(), any(), RANDOM.nextInt(), any(), any());
            case 1:
                return x.end(any());
            case 2:
                return x.text(any(), any());
            case 3:
                return x.fault(any());
            case 4:
                return x.board(any(), any());
            case 5:
                return x.field(any(), any());
            case 6:
                return x.man(any(), any(), any());
            case 7:
                return x.rule(any(), any());
            case 8:
                return x.ends(any(), any(), any());
            case 9:
                return x.ways(any(), any(), any(), any());
            case 10:
                return x.path(any(), any(), any(), any(), any());
            case 11:
                return x.move(any(), any(), any());
            case 12:
                return x.stop(any(), any());
            case 13:
                return x.state(any(), any(), any(), any());
            case 14:
                return x.may(any(), any(), any(), any());
            case 15:
                return x.fatal(any(), any(), any(), odd);
            case 16:
                return x.loses(any(), any(), any()) ? 1 : 0;
            case 17:
                return x.brave(any(), any(), any());
            case 18:
                return x.binds(any(), any(), any(), any());
            case 19:
                return x.drive(any(), any(), any(), any());
            case 20:
                return x.shorter(any(), any(), any(), any());
            case 21:
                return x.alike(any(), any(), any()) ? 1 : 0;
            case 22:
                return x.meanings(any(), any(), any(), odd);
            case 23:
                return x.wins(any(), any(), any(), any(), any());
            case 24:
                return x.soonest(any(), any(), any());
            case 25:
                return x.drawn(any(), RANDOM.nextInt(), any(), any());
            case 26:
                return x.count(any());
            case 27:
                return x.image(any()) ? 1 : 0;
            case 28:
                return x.again(any()) ? 1 : 0;
            default:
                return tell(x);
        }
    }

    /** The dearest calls make no object: what a run makes is made when the object is. */
    static void room() {
        WrittenMoves x = Talk.with("size 6 6;man 0 0;man 0 7;man 0 30;man 1 35;man 1 5;man 1 29;pit 14 22 9;wall 16;",
            "xaxauqxaa", "auqat");
        Talk.due("game", Talk.tell(x, 2, -1, "say xa go 3;say uq go 0;"), 0);
        com.sun.management.ThreadMXBean threads =
            (com.sun.management.ThreadMXBean) java.lang.management.ManagementFactory.getThreadMXBean();
        long sum = 0;
        long before = threads.getThreadAllocatedBytes(Thread.currentThread().getId());
        for (int k = 0; k < 100; k++) {
            sum += x.meanings(0, k % 6, 4, false) + x.wins(0, k % 2, 2, 3, 0) + x.soonest(0, k % 2, 2)
                + x.drive(0, k % 6, 14, 0) + x.path(0, 0, 0, 14, -1) + x.stop(0, 0) + x.drawn(0, k, 30, 30)
                + x.may(0, 0, 2, 0) + x.fatal(0, 0, 1, true) + (x.alike(0, 0, 1) ? 1 : 0) + (x.image(0) ? 1 : 0)
                + (x.again(0) ? 1 : 0) + x.binds(0, 0, 1, 0) + x.shorter(0, 0, 0, 0) + x.feed(1, 2, 3, 4, 5)
                + x.text(k % 3, 0);
        }
        long made = threads.getThreadAllocatedBytes(Thread.currentThread().getId()) - before;
        Talk.due("room of 1600 calls stays small (" + made + " bytes, " + (sum != 0) + ")", made < 20000, true);
    }
}
