/** What the tests share: telling texts to an object, and comparing answers. */
final class Talk {
    static int wrong = 0;
    static int asked = 0;

    private Talk() {
    }

    static void due(String call, long got, long want) {
        asked++;
        if (got != want) {
            wrong++;
            if (wrong <= 40) {
                System.out.println(call + " answered " + got + ", due is " + want);
            }
        }
    }

    static void due(String call, boolean got, boolean want) {
        due(call, got ? 1 : 0, want ? 1 : 0);
    }

    static void finish(String name) {
        System.out.println(name + ": " + asked + " answers, " + wrong + " wrong");
        if (wrong != 0) {
            System.exit(1);
        }
    }

    /** Puts a text on the tape, behind what it has. */
    static void put(WrittenMoves x, int before, String text) {
        int have = before;
        for (int at = 0; at < text.length(); at += 20) {
            int[] numbers = new int[5];
            for (int k = 0; k < 20; k++) {
                int sign = at + k < text.length() ? text.charAt(at + k) : 0;
                numbers[k / 4] |= sign << 24 - 8 * (k % 4);
            }
            due("feed", x.feed(numbers[0], numbers[1], numbers[2], numbers[3], numbers[4]), have + 20);
            have = Math.min(have + 20, before + text.length());
            due("end", x.end(have), have);
        }
    }

    /** Tells a text; the tape is empty ahead of it. */
    static int tell(WrittenMoves x, int sort, int at, String text) {
        put(x, 0, text);
        return x.text(sort, at);
    }

    static WrittenMoves with(String board, String... rules) {
        WrittenMoves x = new WrittenMoves();
        due("board " + board, tell(x, 0, -1, board), 0);
        for (int k = 0; k < rules.length; k++) {
            due("rule " + rules[k], tell(x, 1, -1, rules[k]), k);
        }
        return x;
    }

    static long bits(int... fields) {
        long bits = 0;
        for (int field : fields) {
            bits |= 1L << field;
        }
        return bits;
    }

    /** The SIGNS of a found RULE as a word: what is asked by the place of its answers. */
    static String word(java.util.function.IntUnaryOperator answers) {
        int length = answers.applyAsInt(0);
        if (length < 0) {
            return "" + length;
        }
        StringBuilder word = new StringBuilder();
        for (int k = 0; k < length; k++) {
            word.append("neswatxubgq".charAt(answers.applyAsInt(1 + k)));
        }
        return word.toString();
    }

    static void dueWord(String call, String got, String want) {
        asked++;
        if (!got.equals(want)) {
            wrong++;
            System.out.println(call + " answered " + got + ", due is " + want);
        }
    }
}
