/**
 * Each writes the other's next move: boards, rules and games told as texts, and what can be asked
 * of them. The words in capitals are those of the document.
 */
public final class WrittenMoves {
    /** There is none. */
    public static final int NONE = -1;

    private static final int NO_SUCH = -2;

    private static final int BOARDS = 0;
    private static final int RULES = 1;
    private static final int GAMES = 2;
    private static final int SORTS = 3;
    private static final int MOST_BOARDS = 2;
    private static final int MOST_RULES = 3;
    private static final int MOST_GAMES = 2;
    private static final int IMAGES = 3;

    private static final int MOST_BYTES = 600;
    private static final int LONGEST_SIDE = 6;
    private static final int MOST_FIELDS = 36;
    private static final int MOST_MEN = 6;
    private static final int MOST_MOVES = 30;
    private static final int MOST_SIGNS = 9;

    /** The letters of the SIGNS, each at its number; the first four are the sides, too. */
    private static final String LETTERS = "neswatxubgq";
    private static final int SIDES = 4;
    private static final int ANY = 4;
    private static final int ON = 5;
    private static final int TWICE = 6;
    private static final int MAYBE = 7;
    private static final int BESIDE = 8;
    private static final int APART = 9;
    private static final int QUOTE = 10;
    /** The SIGNS of RULES that are listed: all but q. */
    private static final int LISTED_SIGNS = 10;
    private static final int LISTED_LENGTH = 4;

    /** WAY, while a PATH has no STEP behind it; it stands behind the four sides. */
    private static final int NO_WAY = 4;
    private static final int WAYS = 5;

    private final Told told = new Told();
    private final Told[] images = new Told[IMAGES];
    private final boolean[] kept = new boolean[IMAGES];
    private final Reader reader = new Reader();
    private final Trace trace = new Trace();
    private final Play play = new Play();
    private final Contest contest = new Contest();
    private final Listing listing = contest.listing;

    public WrittenMoves() {
        for (int k = 0; k < IMAGES; k++) {
            images[k] = new Told();
        }
    }

    public int feed(int a, int b, int c, int d, int e) {
        if (told.bytes + 20 > MOST_BYTES) {
            return NONE;
        }
        told.put(a);
        told.put(b);
        told.put(c);
        told.put(d);
        told.put(e);
        return told.bytes;
    }

    public int end(int n) {
        if (n < 0 || n > told.bytes) {
            return NONE;
        }
        told.bytes = n;
        return n;
    }

    public int text(int sort, int at) {
        int length = told.bytes;
        told.bytes = 0;
        told.fault = 0;
        told.place = NONE;
        if (!told.hasRoom(sort, at)) {
            return NO_SUCH;
        }
        reader.read(sort, told.tape, length);
        told.fault = reader.fault;
        told.place = reader.place;
        return reader.fault == 0 ? told.take(reader, sort, at) : NONE;
    }

    public int fault(int what) {
        return what == 0 ? told.fault : what == 1 ? told.place : NONE;
    }

    public int board(int board, int what) {
        Board asked = told.boardAt(board);
        if (asked == null) {
            return NONE;
        }
        switch (what) {
            case 0:
                return asked.width;
            case 1:
                return asked.height;
            case 2:
                return asked.men;
            case 3:
                return Long.bitCount(asked.walls);
            case 4:
                return Long.bitCount(asked.pits);
            default:
                return NONE;
        }
    }

    public int field(int board, int field) {
        Board asked = told.boardAt(board);
        if (asked == null || !asked.hasField(field)) {
            return NONE;
        }
        if (has(asked.walls, field)) {
            return 1;
        }
        if (has(asked.pits, field)) {
            return 2;
        }
        int man = asked.manAt(field);
        return man == NONE ? 0 : 10 + man;
    }

    public int man(int board, int man, int what) {
        Board asked = told.boardAt(board);
        if (asked == null || !asked.hasMan(man)) {
            return NONE;
        }
        return what == 0 ? asked.sides[man] : what == 1 ? asked.fields[man] : NONE;
    }

    public int rule(int rule, int k) {
        if (!told.hasRule(rule)) {
            return NO_SUCH;
        }
        long asked = told.rules[rule];
        if (k == NONE) {
            return lengthOf(asked);
        }
        return k >= 0 && k < lengthOf(asked) ? signOf(asked, k) : NO_SUCH;
    }

    public long ends(int board, int man, int rule) {
        Board asked = told.boardAt(board);
        if (asked == null || !asked.hasMan(man) || !told.hasRule(rule)) {
            return NONE;
        }
        return play.reachedBy(asked, man, told.rules[rule]);
    }

    public int ways(int board, int man, int rule, int field) {
        if (!canTrace(board, man, rule, field)) {
            return NONE;
        }
        Board asked = told.boardAt(board);
        trace.weigh(asked, man, told.rules[rule], field);
        return trace.waysFrom(asked.fields[man]);
    }

    public int path(int board, int man, int rule, int field, int k) {
        if (!canTrace(board, man, rule, field)) {
            return NONE;
        }
        Board asked = told.boardAt(board);
        trace.weigh(asked, man, told.rules[rule], field);
        if (trace.waysFrom(asked.fields[man]) == 0) {
            return NONE;
        }
        trace.follow(asked.fields[man]);
        if (k == NONE) {
            return trace.length;
        }
        return k >= 0 && k < trace.length ? trace.fields[k] : NONE;
    }

    public int move(int game, int k, int what) {
        Game asked = told.gameAt(game);
        if (asked == null) {
            return NO_SUCH;
        }
        if (k == NONE && what == 0) {
            return asked.moves;
        }
        if (!asked.hasMove(k)) {
            return NO_SUCH;
        }
        long written = asked.rules[k];
        if (what == 0) {
            return asked.fields[k];
        }
        if (what == 1) {
            return lengthOf(written);
        }
        return what >= 10 && what < 10 + lengthOf(written) ? signOf(written, what - 10) : NO_SUCH;
    }

    public int stop(int board, int game) {
        Game played = told.gameAt(game);
        return played == null ? NONE : play.follow(told.boardAt(board), played, played.moves);
    }

    public int state(int board, int game, int n, int what) {
        int reached = play.follow(told.boardAt(board), told.gameAt(game), n);
        return reached != NONE && reached == n ? play.stand.tell(what) : NO_SUCH;
    }

    public long may(int board, int game, int n, int rule) {
        Game played = told.gameAt(game);
        if (played == null || !told.hasRule(rule)) {
            return NONE;
        }
        int reached = play.follow(told.boardAt(board), played, n);
        if (reached == NONE || reached != n || play.stand.isOver()) {
            return NONE;
        }
        return play.reached(told.rules[rule], played.ruleAhead(n));
    }

    public int fatal(int board, int game, int k, boolean sign) {
        Game played = told.gameAt(game);
        // A MOVE that can't be made nobody do anything: nothing in it would have made him fall.
        if (played == null || !played.hasMove(k)
                || play.follow(told.boardAt(board), played, k + 1) <= k) {
            return NONE;
        }
        play.follow(told.boardAt(board), played, k);
        int found = play.fatalOf(played, k);
        if (found == NONE) {
            return NONE;
        }
        return sign ? found % LISTED_SIGNS : found / LISTED_SIGNS;
    }

    public boolean loses(int board, int game, int k) {
        Game played = told.gameAt(game);
        // The FIELD of a MOVE that can't be was chosen by nobody.
        if (played == null || !played.hasMove(k)
                || play.follow(told.boardAt(board), played, k + 1) <= k) {
            return false;
        }
        play.follow(told.boardAt(board), played, k);
        return play.losesBy(played, k);
    }

    public int brave(int board, int game, int side) {
        Game played = told.gameAt(game);
        if (played == null || side < 0 || side > 1) {
            return NONE;
        }
        int reached = play.follow(told.boardAt(board), played, played.moves);
        return reached == NONE ? NONE : play.stand.braveOf(side);
    }

    public int binds(int board, int man, int sort, int what) {
        Board asked = told.boardAt(board);
        if (asked == null || !asked.hasMan(man) || sort < 0 || sort > 2) {
            return NONE;
        }
        listing.begin(asked, asked.fields, man, LISTED_LENGTH);
        if (sort == 0) {
            return tellRule(listing.firstTo(0), what);
        }
        return tellRule(listing.firstWithin(sort == 1 ? asked.pits : listing.ground.foes), what);
    }

    public int drive(int board, int man, int field, int what) {
        Board asked = told.boardAt(board);
        if (asked == null || !asked.hasMan(man) || !asked.hasField(field)) {
            return NONE;
        }
        listing.begin(asked, asked.fields, man, LISTED_LENGTH);
        return tellRule(listing.firstTo(bit(field)), what);
    }

    public int shorter(int board, int man, int rule, int what) {
        Board asked = told.boardAt(board);
        if (asked == null || !asked.hasMan(man) || !told.hasRule(rule)) {
            return NONE;
        }
        long goal = play.reachedBy(asked, man, told.rules[rule]);
        listing.begin(asked, asked.fields, man, LISTED_LENGTH);
        return tellRule(listing.firstTo(goal), what);
    }

    public boolean alike(int board, int one, int two) {
        Board asked = told.boardAt(board);
        if (asked == null || !told.hasRule(one) || !told.hasRule(two)) {
            return false;
        }
        return play.areAlike(asked, told.rules[one], told.rules[two]);
    }

    public int meanings(int board, int man, int n, boolean reach) {
        Board asked = told.boardAt(board);
        if (asked == null || !asked.hasMan(man) || n < 1 || n > LISTED_LENGTH) {
            return NONE;
        }
        listing.begin(asked, asked.fields, man, n);
        return reach ? Long.bitCount(listing.reachOfAll()) : listing.unlikeEnds();
    }

    public int wins(int board, int side, int n, int d, int what) {
        Board asked = told.boardAt(board);
        if (!canContest(asked, side, n) || d < 1 || d > Contest.MOST_LEFT || what < 0 || what > 3) {
            return NO_SUCH;
        }
        boolean won = contest.isWon(asked, side, n, d);
        if (what == 0) {
            return won ? 1 : 0;
        }
        return won ? tellRule(contest.best(d), what - 1) : NONE;
    }

    public int soonest(int board, int side, int n) {
        Board asked = told.boardAt(board);
        if (!canContest(asked, side, n)) {
            return NONE;
        }
        for (int d = 1; d <= Contest.MOST_LEFT; d++) {
            if (contest.isWon(asked, side, n, d)) {
                return d;
            }
        }
        return NONE;
    }

    public int drawn(int board, int seed, int moves, int what) {
        Board asked = told.boardAt(board);
        if (asked == null || moves < 1 || moves > MOST_MOVES) {
            return NO_SUCH;
        }
        int made = play.draw(asked, seed, moves);
        return what == 30 ? made : play.stand.tell(what);
    }

    public int count(int sort) {
        return sort >= 0 && sort < SORTS ? told.counts[sort] : NO_SUCH;
    }

    public boolean image(int k) {
        if (k < 0 || k >= IMAGES) {
            return false;
        }
        images[k].copy(told);
        kept[k] = true;
        return true;
    }

    public boolean again(int k) {
        if (k < 0 || k >= IMAGES || !kept[k]) {
            return false;
        }
        told.copy(images[k]);
        return true;
    }

    /** Of a found RULE, what 0 how many SIGNS, 1 + i the i-th; 0 stands for no RULE. */
    private static int tellRule(long rule, int what) {
        if (rule == 0 || what < 0 || what > lengthOf(rule)) {
            return NONE;
        }
        return what == 0 ? lengthOf(rule) : signOf(rule, what - 1);
    }

    private boolean canTrace(int board, int man, int rule, int field) {
        Board asked = told.boardAt(board);
        return asked != null && asked.hasMan(man) && told.hasRule(rule) && asked.hasField(field);
    }

    private static boolean canContest(Board board, int side, int n) {
        return board != null && side >= 0 && side <= 1 && n >= 1 && n <= Contest.MOST_LENGTH;
    }

    private static long bit(int field) {
        return 1L << field;
    }

    private static boolean has(long fields, int field) {
        return (fields >>> field & 1) != 0;
    }

    // A RULE is held in one number, so that it is copied and kept without objects: its length in
    // the lowest four bits, behind it four bits a SIGN. 0 is no RULE.

    private static int lengthOf(long rule) {
        return (int) (rule & 15);
    }

    private static int signOf(long rule, int k) {
        return (int) (rule >>> (4 * k + 4)) & 15;
    }

    private static long withSign(long rule, int sign) {
        return (rule | (long) sign << (4 * lengthOf(rule) + 4)) + 1;
    }

    private static long changedSign(long rule, int k, int sign) {
        int at = 4 * k + 4;
        return (rule & ~(15L << at)) | ((long) sign << at);
    }

    /** A BOARD as it was told. */
    private static final class Board {
        int width;
        int height;
        long walls;
        long pits;
        int men;
        final int[] sides = new int[MOST_MEN];
        final int[] fields = new int[MOST_MEN];

        void clear() {
            width = 4;
            height = 4;
            walls = 0;
            pits = 0;
            men = 0;
        }

        void copy(Board other) {
            width = other.width;
            height = other.height;
            walls = other.walls;
            pits = other.pits;
            men = other.men;
            System.arraycopy(other.sides, 0, sides, 0, MOST_MEN);
            System.arraycopy(other.fields, 0, fields, 0, MOST_MEN);
        }

        void addMan(int side, int field) {
            if (men < MOST_MEN) {
                sides[men] = side;
                fields[men] = field;
                men++;
            }
        }

        boolean hasField(int field) {
            return field >= 0 && field < width * height;
        }

        boolean hasMan(int man) {
            return man >= 0 && man < men;
        }

        int manAt(int field) {
            for (int man = 0; man < men; man++) {
                if (fields[man] == field) {
                    return man;
                }
            }
            return NONE;
        }

        /** A FIELD told as a WALL and as a PIT is a WALL, whichever was told first. */
        void settle() {
            pits &= ~walls;
        }

        /** Whether all FIELDS told of are there, and every man stands on a free one of his own. */
        boolean isSound() {
            long all = bit(width * height) - 1;
            long taken = walls | pits;
            if ((taken & ~all) != 0) {
                return false;
            }
            for (int man = 0; man < men; man++) {
                long here = bit(fields[man]);
                if ((here & all & ~taken) == 0) {
                    return false;
                }
                taken |= here;
            }
            return true;
        }
    }

    /** A GAME as it was told. */
    private static final class Game {
        int moves;
        final long[] rules = new long[MOST_MOVES];
        final int[] fields = new int[MOST_MOVES];

        void copy(Game other) {
            moves = other.moves;
            System.arraycopy(other.rules, 0, rules, 0, MOST_MOVES);
            System.arraycopy(other.fields, 0, fields, 0, MOST_MOVES);
        }

        void addMove(long rule, int field) {
            if (moves < MOST_MOVES) {
                rules[moves] = rule;
                fields[moves] = field;
                moves++;
            }
        }

        boolean hasMove(int k) {
            return k >= 0 && k < moves;
        }

        /** The RULE that q stands for in a MOVE. */
        long ruleAhead(int k) {
            return k >= 1 && k <= moves ? rules[k - 1] : 0;
        }
    }

    /** All that is told. */
    private static final class Told {
        int bytes;
        int fault;
        int place = NONE;
        final int[] tape = new int[MOST_BYTES];
        final int[] counts = new int[SORTS];
        final Board[] boards = new Board[MOST_BOARDS];
        final long[] rules = new long[MOST_RULES];
        final Game[] games = new Game[MOST_GAMES];

        Told() {
            for (int k = 0; k < MOST_BOARDS; k++) {
                boards[k] = new Board();
            }
            for (int k = 0; k < MOST_GAMES; k++) {
                games[k] = new Game();
            }
        }

        void copy(Told other) {
            bytes = other.bytes;
            fault = other.fault;
            place = other.place;
            System.arraycopy(other.tape, 0, tape, 0, MOST_BYTES);
            System.arraycopy(other.counts, 0, counts, 0, SORTS);
            System.arraycopy(other.rules, 0, rules, 0, MOST_RULES);
            for (int k = 0; k < MOST_BOARDS; k++) {
                boards[k].copy(other.boards[k]);
            }
            for (int k = 0; k < MOST_GAMES; k++) {
                games[k].copy(other.games[k]);
            }
        }

        void put(int number) {
            for (int shift = 24; shift >= 0 && bytes < MOST_BYTES; shift -= 8) {
                tape[bytes] = number >>> shift & 255;
                bytes++;
            }
        }

        Board boardAt(int k) {
            return k >= 0 && k < counts[BOARDS] ? boards[k] : null;
        }

        boolean hasRule(int k) {
            return k >= 0 && k < counts[RULES];
        }

        Game gameAt(int k) {
            return k >= 0 && k < counts[GAMES] ? games[k] : null;
        }

        /** Whether a text of a sort can come to a place, or be a further one (at NONE). */
        boolean hasRoom(int sort, int at) {
            if (sort < 0 || sort >= SORTS) {
                return false;
            }
            int most = sort == BOARDS ? MOST_BOARDS : sort == RULES ? MOST_RULES : MOST_GAMES;
            return at == NONE ? counts[sort] < most : at >= 0 && at < counts[sort];
        }

        /** Takes what was read to a place that there is room for: its number. */
        int take(Reader reader, int sort, int at) {
            int k = at == NONE ? counts[sort] : at;
            if (sort == BOARDS) {
                boards[k].copy(reader.board);
            } else if (sort == RULES) {
                rules[k] = reader.rule;
            } else {
                games[k].copy(reader.game);
            }
            counts[sort] = Math.max(counts[sort], k + 1);
            return k;
        }
    }

    /** Reads the tape token by token, one token being looked at. */
    private static final class Reader {
        private static final int BLANK = 0;
        private static final int WORD = 1;
        private static final int NUMBER = 2;
        private static final int MARK = 3;
        private static final int OTHER = 4;
        private static final int END = 5;

        final Board board = new Board();
        final Game game = new Game();
        long rule;
        int fault;
        int place;
        private int[] tape = new int[0];
        private int length;
        private int kind;
        private int start;
        private int next;
        private int value;

        /** Reads a text of a sort: what it tells is in board, rule, game, if there is no FAULT. */
        void read(int sort, int[] bytes, int count) {
            tape = bytes;
            length = Math.min(count, bytes.length);
            next = 0;
            fault = 0;
            place = NONE;
            board.clear();
            game.moves = 0;
            advance();
            boolean good = sort != RULES || takeRule() && kind == END;
            for (int line = 0; line < MOST_BYTES && good && kind != END; line++) {
                good = sort == BOARDS ? readBoardLine() : readGameLine();
            }
            board.settle();
            if (!good) {
                fault = 1;
                place = start;
            } else if (fault == 0 && sort == BOARDS && !board.isSound()) {
                note(4, length);
            }
        }

        private boolean readBoardLine() {
            if (isWord("size")) {
                advance();
                return readSize() && takeMark();
            }
            if (isWord("man")) {
                if (board.men == MOST_MEN) {
                    note(3, start);
                }
                advance();
                return readMan() && takeMark();
            }
            if (isWord("wall")) {
                advance();
                long walls = readFields();
                board.walls |= walls;
                return walls != 0 && takeMark();
            }
            if (isWord("pit")) {
                advance();
                long pits = readFields();
                board.pits |= pits;
                return pits != 0 && takeMark();
            }
            return false;
        }

        private boolean readSize() {
            int width = takeNumber(2, LONGEST_SIDE);
            int height = takeNumber(2, LONGEST_SIDE);
            board.width = width;
            board.height = height;
            return width != NONE && height != NONE;
        }

        private boolean readMan() {
            int side = takeNumber(0, 1);
            int field = takeNumber(0, MOST_FIELDS - 1);
            board.addMan(side, field);
            return side != NONE && field != NONE;
        }

        /** FIELDS, as long as they go; 0, if there is none. */
        private long readFields() {
            long fields = 0;
            for (int k = 0; k < MOST_BYTES && kind == NUMBER; k++) {
                fields |= bit(takeNumber(0, MOST_FIELDS - 1));
            }
            return fields;
        }

        private boolean readGameLine() {
            if (!isWord("say")) {
                return false;
            }
            if (game.moves == MOST_MOVES) {
                note(3, start);
            }
            advance();
            if (!takeRule()) {
                return false;
            }
            int field = NONE;
            if (isWord("go")) {
                advance();
                field = takeNumber(0, MOST_FIELDS - 1);
                if (field == NONE) {
                    return false;
                }
            }
            game.addMove(rule, field);
            return takeMark();
        }

        /** Takes a word of SIGNS to rule; false, if the token is none. */
        private boolean takeRule() {
            if (kind != WORD || next - start > MOST_SIGNS) {
                return false;
            }
            long read = 0;
            boolean quotes = false;
            for (int at = start; at < next; at++) {
                int sign = LETTERS.indexOf((char) tape[at]);
                if (sign < 0 || sign == QUOTE && quotes) {
                    return false;
                }
                quotes = quotes || sign == QUOTE;
                read = withSign(read, sign);
            }
            rule = read;
            advance();
            return true;
        }

        /** Takes a NUMBER, noting the FAULT of one that can't be; NONE, if the token is none. */
        private int takeNumber(int least, int most) {
            if (kind != NUMBER) {
                return NONE;
            }
            int taken = value;
            if (taken < least || taken > most) {
                note(2, start);
            }
            advance();
            return taken;
        }

        private boolean takeMark() {
            if (kind != MARK) {
                return false;
            }
            advance();
            return true;
        }

        /** Keeps a FAULT that texts go on behind: of these the first by place is met first. */
        private void note(int found, int at) {
            if (fault == 0) {
                fault = found;
                place = at;
            }
        }

        private boolean isWord(String word) {
            if (kind != WORD || next - start != word.length()) {
                return false;
            }
            for (int k = 0; k < word.length(); k++) {
                if (tape[start + k] != word.charAt(k)) {
                    return false;
                }
            }
            return true;
        }

        /** Looks at the next token. A longer row of digits is none, as is a byte of no kind. */
        private void advance() {
            start = next;
            while (start < length && kindOf(tape[start]) == BLANK) {
                start++;
            }
            kind = start < length ? kindOf(tape[start]) : END;
            next = start < length ? start + 1 : start;
            boolean row = kind == WORD || kind == NUMBER;
            while (row && next < length && kindOf(tape[next]) == kind) {
                next++;
            }
            if (kind == NUMBER && next - start > 2) {
                kind = OTHER;
            }
            value = 0;
            for (int at = start; at < next && kind == NUMBER; at++) {
                value = 10 * value + tape[at] - '0';
            }
        }

        private static int kindOf(int sign) {
            if (sign == 10 || sign == 32) {
                return BLANK;
            }
            if (sign >= 'a' && sign <= 'z') {
                return WORD;
            }
            if (sign >= '0' && sign <= '9') {
                return NUMBER;
            }
            return sign == ';' ? MARK : OTHER;
        }
    }

    /** What a man finds around him: FIELDS as bits, so that many PATHS go at once. */
    private static final class Ground {
        /** By side: the FIELDS from which a STEP to it can be, and how far bits move by it. */
        final long[] from = new long[SIDES];
        final int[] shift = new int[SIDES];
        /** FIELDS of those of the other SIDE. */
        long foes;
        /** FIELDS beside these. */
        long beside;
        /** FIELDS where a PATH ENDS: PITS and foes. */
        long halts;

        /** Lays the ground for a man of a SIDE (NONE: a further one), others being where told. */
        void lay(Board board, int[] fields, int side, int man) {
            long all = bit(board.width * board.height) - 1;
            long open = all & ~board.walls;
            foes = 0;
            for (int other = 0; other < board.men; other++) {
                if (other != man && fields[other] != NONE) {
                    if (board.sides[other] == side) {
                        open &= ~bit(fields[other]);
                    } else {
                        foes |= bit(fields[other]);
                    }
                }
            }
            halts = foes | board.pits;
            shift[0] = -board.width;
            shift[1] = 1;
            shift[2] = board.width;
            shift[3] = -1;
            layNeighbours(board, all, open);
        }

        private void layNeighbours(Board board, long all, long open) {
            long west = 0;
            for (int row = 0; row < board.height; row++) {
                west |= bit(row * board.width);
            }
            long east = west << (board.width - 1);
            from[0] = (open << board.width) & all;
            from[1] = (open & ~west) >>> 1;
            from[2] = open >>> board.width;
            from[3] = (open & ~east) << 1;
            beside = ((foes << board.width) & all) | ((foes & ~west) >>> 1)
                | (foes >>> board.width) | ((foes & ~east) << 1);
        }

        /** Where those of these FIELDS lead from which a STEP to a side can be. */
        long moved(long fields, int side) {
            long going = fields & from[side];
            return shift[side] < 0 ? going >>> -shift[side] : going << shift[side];
        }

        /** The FIELD of a STEP; NONE, if it can't be. */
        int stepTo(int field, int side) {
            return has(from[side], field) ? field + shift[side] : NONE;
        }
    }

    /** All PATHS at once, SIGN by SIGN: on which FIELDS they are, by WAY, and where some ENDED. */
    private static final class Walk {
        final long[] at = new long[WAYS];
        private final long[] aside = new long[WAYS];
        private long ended;
        private int ahead = NONE;
        /** Another one for trying q, which a Walk without it never goes by. */
        private final Walk probe;

        Walk(Walk probe) {
            this.probe = probe;
        }

        void begin(int way, int field) {
            for (int k = 0; k < WAYS; k++) {
                at[k] = k == way ? bit(field) : 0;
            }
            ended = 0;
            ahead = NONE;
        }

        void copy(Walk other) {
            System.arraycopy(other.at, 0, at, 0, WAYS);
            ended = other.ended;
            ahead = other.ahead;
        }

        /** ENDS, if there is no SIGN more. */
        long reached() {
            return ended | here();
        }

        private long here() {
            return at[0] | at[1] | at[2] | at[3] | at[4];
        }

        /** ENDS from a FIELD by a RULE, q being the SIGNS of another one (0: there is none). */
        long endsFrom(Ground ground, int field, long rule, long quote) {
            begin(NO_WAY, field);
            for (int k = 0; k < lengthOf(rule); k++) {
                int sign = signOf(rule, k);
                if (sign != QUOTE) {
                    add(ground, sign);
                } else if (ahead == MAYBE && probe != null) {
                    addQuoteIfCan(ground, quote);
                } else {
                    boolean twice = ahead == TWICE;
                    addAll(ground, quote);
                    if (twice) {
                        addAll(ground, quote);
                    }
                }
            }
            return reached();
        }

        /** Goes by the SIGNS of a RULE as by one SIGN; its own q is nothing. */
        private void addAll(Ground ground, long rule) {
            ahead = NONE;
            for (int k = 0; k < lengthOf(rule); k++) {
                add(ground, signOf(rule, k));
            }
            ahead = NONE;
        }

        /** Each FIELD by each WAY is tried alone: one PATH there goes on by q, another can't. */
        private void addQuoteIfCan(Ground ground, long quote) {
            for (int way = 0; way < WAYS; way++) {
                aside[way] = 0;
            }
            for (int way = 0; way < WAYS; way++) {
                for (int field = 0; field < MOST_FIELDS; field++) {
                    if (has(at[way], field)) {
                        probe.begin(way, field);
                        for (int k = 0; k < lengthOf(quote); k++) {
                            probe.add(ground, signOf(quote, k));
                        }
                        keepAside(way, field);
                    }
                }
            }
            System.arraycopy(aside, 0, at, 0, WAYS);
            ahead = NONE;
        }

        private void keepAside(int way, int field) {
            if (probe.reached() == 0) {
                aside[way] |= bit(field);
            }
            for (int other = 0; other < WAYS; other++) {
                aside[other] |= probe.at[other];
            }
            ended |= probe.ended;
        }

        /** Goes by one SIGN; q is nothing, and takes away what is right ahead of it. */
        void add(Ground ground, int sign) {
            int before = ahead;
            boolean prefix = sign == TWICE || sign == MAYBE;
            ahead = prefix ? sign : NONE;
            if (prefix || sign == QUOTE) {
                return;
            }
            if (before == MAYBE) {
                setAside(ground, sign);
            }
            int times = before == TWICE ? 2 : 1;
            for (int time = 0; time < times; time++) {
                if (sign <= ANY) {
                    goSteps(ground, sign);
                } else if (sign == ON) {
                    goOn(ground);
                } else {
                    stay(sign == BESIDE ? ground.beside : ~ground.beside);
                }
            }
            for (int way = 0; way < WAYS && before == MAYBE; way++) {
                at[way] |= aside[way];
            }
        }

        /** Sets aside the PATHS for which a SIGN can't be. */
        private void setAside(Ground ground, int sign) {
            for (int way = 0; way < WAYS; way++) {
                long can;
                if (sign < SIDES) {
                    can = ground.from[sign];
                } else if (sign == ANY) {
                    can = ground.from[0] | ground.from[1] | ground.from[2] | ground.from[3];
                } else if (sign == ON) {
                    can = way == NO_WAY ? 0 : at[way];
                } else {
                    can = sign == BESIDE ? ground.beside : ~ground.beside;
                }
                aside[way] = at[way] & ~can;
                at[way] &= can;
            }
        }

        private void goSteps(Ground ground, int sign) {
            long here = here();
            for (int side = 0; side < SIDES; side++) {
                long there = sign == ANY || sign == side ? ground.moved(here, side) : 0;
                ended |= there & ground.halts;
                at[side] = there & ~ground.halts;
            }
            at[NO_WAY] = 0;
        }

        private void goOn(Ground ground) {
            for (int side = 0; side < SIDES; side++) {
                long going = at[side];
                long resting = 0;
                for (int k = 0; k < LONGEST_SIDE; k++) {
                    resting |= going & ~ground.from[side];
                    going = ground.moved(going, side);
                    ended |= going & ground.halts;
                    going &= ~ground.halts;
                }
                at[side] = resting;
            }
            at[NO_WAY] = 0;
        }

        private void stay(long fields) {
            for (int way = 0; way < WAYS; way++) {
                at[way] &= fields;
            }
        }
    }

    /** PATHS to one END by a RULE told alone: how many there are, and the FIRST of them. */
    private static final class Trace {
        /** More STEPS than any PATH has: there is no PATH. */
        private static final int FAR = 1000;
        private static final int LAYER = WAYS * MOST_FIELDS;

        /** The FIELDS of the FIRST. */
        final int[] fields = new int[MOST_SIGNS * LONGEST_SIDE + 1];
        int length;
        private final Ground ground = new Ground();
        private final int[] signs = new int[MOST_SIGNS];
        private final boolean[] maybe = new boolean[MOST_SIGNS];
        private int count;
        /** By SIGNS gone, WAY and FIELD: how many PATHS go on to the END, and the fewest STEPS. */
        private final int[] ways = new int[(MOST_SIGNS + 1) * LAYER];
        private final int[] least = new int[(MOST_SIGNS + 1) * LAYER];

        void weigh(Board board, int man, long rule, int goal) {
            ground.lay(board, board.fields, board.sides[man], man);
            spread(rule);
            for (int k = count; k >= 0; k--) {
                for (int way = 0; way < WAYS; way++) {
                    for (int field = 0; field < board.width * board.height; field++) {
                        weighOne(k, way, field, goal);
                    }
                }
            }
        }

        int waysFrom(int field) {
            return ways[place(0, NO_WAY, field)];
        }

        /** Writes a RULE as the SIGNS that are gone by one behind the other, without x, u, q. */
        private void spread(long rule) {
            count = 0;
            int ahead = NONE;
            for (int k = 0; k < lengthOf(rule); k++) {
                int sign = signOf(rule, k);
                boolean prefix = sign == TWICE || sign == MAYBE;
                if (!prefix && sign != QUOTE) {
                    put(sign, ahead == MAYBE);
                    if (ahead == TWICE) {
                        put(sign, false);
                    }
                }
                ahead = prefix ? sign : NONE;
            }
        }

        private void put(int sign, boolean ifCan) {
            if (count < MOST_SIGNS) {
                signs[count] = sign;
                maybe[count] = ifCan;
                count++;
            }
        }

        private static int place(int k, int way, int field) {
            return k * LAYER + way * MOST_FIELDS + field;
        }

        private void weighOne(int k, int way, int field, int goal) {
            int here = place(k, way, field);
            ways[here] = 0;
            least[here] = FAR;
            if (k == count || has(ground.halts, field)) {
                if (field == goal) {
                    ways[here] = 1;
                    least[here] = 0;
                }
                return;
            }
            int sign = signs[k];
            boolean can;
            if (sign <= ANY) {
                can = weighSteps(k, here, field);
            } else if (sign == ON) {
                can = way != NO_WAY;
                if (can) {
                    weighOn(k, here, way, field);
                }
            } else {
                can = has(ground.beside, field) == (sign == BESIDE);
                if (can) {
                    join(here, place(k + 1, way, field), 0);
                }
            }
            if (!can && maybe[k]) {
                join(here, place(k + 1, way, field), 0);
            }
        }

        private void join(int here, int there, int steps) {
            ways[here] += ways[there];
            least[here] = Math.min(least[here], least[there] + steps);
        }

        private boolean weighSteps(int k, int here, int field) {
            boolean can = false;
            for (int side = 0; side < SIDES; side++) {
                int to = signs[k] == ANY || signs[k] == side ? ground.stepTo(field, side) : NONE;
                if (to != NONE) {
                    join(here, place(k + 1, side, to), 1);
                    can = true;
                }
            }
            return can;
        }

        private void weighOn(int k, int here, int way, int field) {
            length = 0;
            int at = followOn(field, way);
            join(here, place(k + 1, way, at), length);
        }

        /** Writes down the FIRST PATH from a FIELD to the END weighed, of which there is one. */
        void follow(int field) {
            length = 0;
            int at = reach(field);
            int way = NO_WAY;
            for (int k = 0; k < count && !has(ground.halts, at); k++) {
                int side = firstSide(k, at);
                if (side != NONE) {
                    way = side;
                    at = reach(ground.stepTo(at, side));
                } else if (signs[k] == ON && way != NO_WAY) {
                    at = followOn(at, way);
                }
            }
        }

        private int followOn(int field, int way) {
            int at = field;
            for (int i = 0; i < LONGEST_SIDE && !has(ground.halts, at); i++) {
                int to = ground.stepTo(at, way);
                if (to == NONE) {
                    break;
                }
                at = reach(to);
            }
            return at;
        }

        private int reach(int field) {
            if (length < fields.length) {
                fields[length] = field;
                length++;
            }
            return field;
        }

        /** The first side by which the fewest STEPS are left; NONE, if the SIGN is no STEP. */
        private int firstSide(int k, int field) {
            int found = NONE;
            int fewest = FAR;
            for (int side = 0; side < SIDES; side++) {
                int to = signs[k] == ANY || signs[k] == side ? ground.stepTo(field, side) : NONE;
                if (to != NONE && least[place(k + 1, side, to)] < fewest) {
                    fewest = least[place(k + 1, side, to)];
                    found = side;
                }
            }
            return found;
        }
    }

    /** All RULES in their order, for one man; behind each SIGN stands where its PATHS are. */
    private static final class Listing {
        /** So many RULES have at most four SIGNS. */
        private static final int MOST_LISTED = 11110;
        /** A power of two that leaves room among unlike ENDS of all of them. */
        private static final int TABLE = 16384;

        final Ground ground = new Ground();
        private final Walk[] walks = new Walk[LISTED_LENGTH + 1];
        private final int[] signs = new int[LISTED_LENGTH];
        private int length;
        private int longest;
        private final long[] table = new long[TABLE];

        Listing() {
            for (int k = 0; k <= LISTED_LENGTH; k++) {
                walks[k] = new Walk(null);
            }
        }

        /** Stands ahead of the first RULE of those of at most so many SIGNS, four or fewer. */
        void begin(Board board, int[] fields, int man, int most) {
            ground.lay(board, fields, board.sides[man], man);
            walks[0].begin(NO_WAY, fields[man]);
            length = 0;
            longest = Math.min(most, LISTED_LENGTH);
        }

        /** Goes to the next RULE; false, if there is none. */
        boolean next() {
            int changed = length - 1;
            while (changed >= 0 && signs[changed] == LISTED_SIGNS - 1) {
                signs[changed] = 0;
                changed--;
            }
            if (changed >= 0) {
                signs[changed]++;
            } else {
                if (length >= longest) {
                    return false;
                }
                signs[length] = 0;
                length++;
                changed = 0;
            }
            for (int k = changed; k < length; k++) {
                walks[k + 1].copy(walks[k]);
                walks[k + 1].add(ground, signs[k]);
            }
            return true;
        }

        /** ENDS by the RULE that it stands at. */
        long reached() {
            return walks[length].reached();
        }

        private long written() {
            long rule = 0;
            for (int k = 0; k < length; k++) {
                rule = withSign(rule, signs[k]);
            }
            return rule;
        }

        /** The first RULE of which these are the ENDS; 0 without. */
        long firstTo(long goal) {
            for (int k = 0; k < MOST_LISTED && next(); k++) {
                if (reached() == goal) {
                    return written();
                }
            }
            return 0;
        }

        /** The first RULE that has ENDS, all of them among these FIELDS; 0 without. */
        long firstWithin(long fields) {
            for (int k = 0; k < MOST_LISTED && next(); k++) {
                if (reached() != 0 && (reached() & ~fields) == 0) {
                    return written();
                }
            }
            return 0;
        }

        long reachOfAll() {
            long reach = 0;
            for (int k = 0; k < MOST_LISTED && next(); k++) {
                reach |= reached();
            }
            return reach;
        }

        int unlikeEnds() {
            for (int k = 0; k < TABLE; k++) {
                table[k] = 0;
            }
            int found = 0;
            boolean none = false;
            for (int k = 0; k < MOST_LISTED && next(); k++) {
                long ends = reached();
                if (ends == 0) {
                    none = true;
                } else if (isNew(ends)) {
                    found++;
                }
            }
            return none ? found + 1 : found;
        }

        /** Whether ENDS are not yet in the table; they are then. 0 is an empty place of it. */
        private boolean isNew(long ends) {
            long mixed = ends * 0x9E3779B97F4A7C15L;
            int place = (int) (mixed >>> 50) & (TABLE - 1);
            for (int k = 0; k < TABLE && table[place] != 0; k++) {
                if (table[place] == ends) {
                    return false;
                }
                place = (place + 1) & (TABLE - 1);
            }
            table[place] = ends;
            return true;
        }
    }

    /** How it stands in a GAME. */
    private static final class Stand {
        Board board;
        int writer;
        private int took;
        final int[] at = new int[MOST_MEN];
        /** By SIDE: who of it went last. */
        private final int[] went = new int[2];

        Stand(Board board) {
            this.board = board;
        }

        void begin(Board from, int first) {
            board = from;
            writer = first;
            took = 0;
            System.arraycopy(from.fields, 0, at, 0, MOST_MEN);
            went[0] = NONE;
            went[1] = NONE;
        }

        void copy(Stand other) {
            board = other.board;
            writer = other.writer;
            took = other.took;
            System.arraycopy(other.at, 0, at, 0, MOST_MEN);
            went[0] = other.went[0];
            went[1] = other.went[1];
        }

        private boolean isStanding(int man, int side) {
            return board.sides[man] == side && at[man] != NONE;
        }

        int menOf(int side) {
            int found = 0;
            for (int man = 0; man < board.men; man++) {
                if (isStanding(man, side)) {
                    found++;
                }
            }
            return found;
        }

        boolean isOver() {
            return menOf(0) == 0 || menOf(1) == 0;
        }

        /** The NEXT man of a SIDE; NONE without. */
        int nextMan(int side) {
            int least = NONE;
            for (int man = board.men - 1; man >= 0; man--) {
                if (isStanding(man, side)) {
                    least = man;
                }
            }
            for (int man = went[side] + 1; man < board.men; man++) {
                if (isStanding(man, side)) {
                    return man;
                }
            }
            return least;
        }

        /** A MOVE is made: the one who obeys goes to a FIELD, or (NONE) he could not obey. */
        void make(int field) {
            int man = nextMan(field == NONE ? writer : 1 - writer);
            if (man != NONE) {
                if (field == NONE) {
                    at[man] = NONE;
                } else {
                    go(man, field);
                }
            }
            writer = 1 - writer;
        }

        private void go(int man, int field) {
            for (int other = 0; other < board.men; other++) {
                if (other != man && at[other] == field) {
                    at[other] = NONE;
                    took |= 1 << man;
                }
            }
            at[man] = has(board.pits, field) ? NONE : field;
            went[board.sides[man]] = man;
        }

        int braveOf(int side) {
            int found = 0;
            for (int man = 0; man < board.men; man++) {
                if (board.sides[man] == side && has(took, man)) {
                    found++;
                }
            }
            return found;
        }

        int tell(int what) {
            if (what >= 10 && what < 10 + board.men) {
                return at[what - 10];
            }
            switch (what) {
                case 0:
                    return writer;
                case 1:
                    return isOver() ? 1 : 0;
                case 2:
                case 3:
                    return menOf(what - 2);
                case 20:
                case 21:
                    return nextMan(what - 20);
                default:
                    return NO_SUCH;
            }
        }
    }

    /** Plays GAMES, and finds ENDS by RULES. */
    private static final class Play {
        final Stand stand = new Stand(new Board());
        private final Ground ground = new Ground();
        private final Walk walk = new Walk(new Walk(null));
        private int seed;

        /** ENDS of a man of a BOARD by a RULE told alone. */
        long reachedBy(Board board, int man, long rule) {
            ground.lay(board, board.fields, board.sides[man], man);
            return walk.endsFrom(ground, board.fields[man], rule, 0);
        }

        boolean areAlike(Board board, long one, long two) {
            ground.lay(board, board.fields, 0, NONE);
            for (int field = 0; field < board.width * board.height; field++) {
                boolean free = !has(board.walls | board.pits, field) && board.manAt(field) == NONE;
                if (free && walk.endsFrom(ground, field, one, 0)
                        != walk.endsFrom(ground, field, two, 0)) {
                    return false;
                }
            }
            return true;
        }

        /** ENDS of the one who is to obey, if there is one. */
        long reached(long rule, long quote) {
            int side = 1 - stand.writer;
            int man = stand.nextMan(side);
            if (man == NONE) {
                return 0;
            }
            ground.lay(stand.board, stand.at, side, man);
            return walk.endsFrom(ground, stand.at[man], rule, quote);
        }

        /** Plays the first MOVES of a GAME: how many can be; NONE, if there is none such. */
        int follow(Board board, Game game, int moves) {
            if (board == null || game == null || moves < 0 || moves > game.moves) {
                return NONE;
            }
            stand.begin(board, 0);
            for (int k = 0; k < moves; k++) {
                if (stand.isOver()) {
                    return k;
                }
                long ends = reached(game.rules[k], game.ruleAhead(k));
                int field = game.fields[k];
                if (field == NONE ? ends != 0 : !has(ends, field)) {
                    return k;
                }
                stand.make(field);
            }
            return moves;
        }

        /** FATAL of a MOVE that it stands ahead of: ten times the place, and the SIGN; or NONE. */
        int fatalOf(Game game, int k) {
            if (!game.hasMove(k)) {
                return NONE;
            }
            long rule = game.rules[k];
            for (int place = 0; place < lengthOf(rule); place++) {
                for (int sign = 0; sign < LISTED_SIGNS; sign++) {
                    if (sign != signOf(rule, place)) {
                        long ends = reached(changedSign(rule, place, sign), game.ruleAhead(k));
                        if (ends != 0 && (ends & ~stand.board.pits) == 0) {
                            return LISTED_SIGNS * place + sign;
                        }
                    }
                }
            }
            return NONE;
        }

        /** LOSES of a MOVE that it stands ahead of. */
        boolean losesBy(Game game, int k) {
            if (!game.hasMove(k) || game.fields[k] == NONE) {
                return false;
            }
            long ends = reached(game.rules[k], game.ruleAhead(k));
            long safe = ends & ~stand.board.pits & ~ground.beside;
            return safe != 0 && !has(safe, game.fields[k]);
        }

        /** Plays a GAME that is DRAWN by a SEED: how many MOVES there were. */
        int draw(Board board, int from, int most) {
            stand.begin(board, 0);
            seed = from;
            for (int made = 0; made < most; made++) {
                if (stand.isOver()) {
                    return made;
                }
                long rule = 0;
                int signs = below(3) + 1;
                for (int k = 0; k < signs; k++) {
                    rule = withSign(rule, below(LISTED_SIGNS));
                }
                long ends = reached(rule, 0);
                stand.make(ends == 0 ? NONE : fieldAt(ends, below(Long.bitCount(ends))));
            }
            return most;
        }

        /** A number below n, which is above 0. */
        private int below(int n) {
            seed = seed * 1103515245 + 12345;
            return n > 0 ? (seed >>> 16) % n : 0;
        }

        private static int fieldAt(long fields, int k) {
            int left = k;
            for (int field = 0; field < MOST_FIELDS; field++) {
                if (has(fields, field)) {
                    if (left == 0) {
                        return field;
                    }
                    left--;
                }
            }
            return NONE;
        }
    }

    /** Who WINS: tries all RULES and all ENDS, by how many MOVES are left. */
    private static final class Contest {
        static final int MOST_LEFT = 3;
        static final int MOST_LENGTH = 2;
        /** So many RULES have at most two SIGNS. */
        private static final int MOST_LISTED = 110;
        /** Among FIELDS: he could not obey. */
        private static final int NO_FIELD = MOST_FIELDS;
        private static final int WON = 1;
        private static final int NOT_WON = 2;

        /** It serves the calls that ask of one man, too. */
        final Listing listing = new Listing();
        private final Stand[] stands = new Stand[MOST_LEFT + 1];
        /** ENDS by each RULE. */
        private final long[][] ends = new long[MOST_LEFT + 1][MOST_LISTED];
        /** By FIELD gone to: 0, while it is not known whether that is WON. */
        private final int[][] known = new int[MOST_LEFT + 1][MOST_FIELDS + 1];
        /** The place of the RULE that decided it: by it the writer gets his will; NONE without. */
        private final int[] decided = new int[MOST_LEFT + 1];
        private int side;
        /** How many RULES may be written, by their order: those of one SIGN, or of two, too. */
        private int listed;

        Contest() {
            Board board = new Board();
            for (int k = 0; k <= MOST_LEFT; k++) {
                stands[k] = new Stand(board);
            }
        }

        /** Whether a SIDE that is to write WINS from a BOARD on, within so many MOVES. */
        boolean isWon(Board board, int writer, int most, int left) {
            side = writer;
            listed = most == 1 ? LISTED_SIGNS : MOST_LISTED;
            stands[left].begin(board, writer);
            return isWonWithin(left);
        }

        /** BEST of what isWon() found WON within so many MOVES. */
        long best(int left) {
            int k = decided[left];
            if (k == NONE) {
                return 0;
            }
            if (k < LISTED_SIGNS) {
                return withSign(0, k);
            }
            int pair = k - LISTED_SIGNS;
            return withSign(withSign(0, pair / LISTED_SIGNS), pair % LISTED_SIGNS);
        }

        /** Whether it can be WON by MOVES from where it stands, so many being left. */
        private boolean isWonWithin(int left) {
            Stand stand = stands[left];
            decided[left] = NONE;
            // Where it is OVER no MOVE can be, whoever lacks men; by one MOVE one man is gone at most.
            if (stand.isOver() || stand.menOf(1 - side) > left) {
                return false;
            }
            list(left);
            // The one who WINS needs one RULE by which it is WON, the other one a single RULE by which not.
            boolean writes = stand.writer == side;
            for (int k = 0; k < listed; k++) {
                if (winsBehind(left, ends[left][k], !writes) == writes) {
                    decided[left] = k;
                    return writes;
                }
            }
            return !writes;
        }

        /** Lists ENDS by all RULES; behind none of them anything is known. */
        private void list(int left) {
            Stand stand = stands[left];
            int man = stand.nextMan(1 - stand.writer);
            if (man == NONE) {
                return;
            }
            listing.begin(stand.board, stand.at, man, MOST_LENGTH);
            for (int k = 0; k < listed && listing.next(); k++) {
                ends[left][k] = listing.reached();
            }
            for (int field = 0; field <= NO_FIELD; field++) {
                known[left][field] = 0;
            }
        }

        /** Whether it is WON behind one of the ENDS (chosen by its own man), or behind all. */
        private boolean winsBehind(int left, long fields, boolean one) {
            if (fields == 0) {
                return winsAt(left, NO_FIELD);
            }
            for (int field = 0; field < MOST_FIELDS; field++) {
                if (has(fields, field) && winsAt(left, field) == one) {
                    return one;
                }
            }
            return !one;
        }

        private boolean winsAt(int left, int field) {
            if (known[left][field] == 0 && left > 0) {
                stands[left - 1].copy(stands[left]);
                stands[left - 1].make(field == NO_FIELD ? NONE : field);
                boolean won = stands[left - 1].menOf(1 - side) == 0 || isWonWithin(left - 1);
                known[left][field] = won ? WON : NOT_WON;
            }
            return known[left][field] == WON;
        }
    }
}
