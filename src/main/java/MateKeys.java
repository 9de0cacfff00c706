/** Chess problems of one move on a board of five columns and five rows. */
public final class MateKeys {
    public static final int NONE = -1;
    public static final int BAD = -2;
    public static final int REFUSED = -3;
    public static final int NOTHING = -4;

    private static final int WIDTH = 5;
    private static final int SQUARES = 25;
    private static final int MOST_MEN = 12;
    private static final int MOST_UNDO = 8;
    private static final int MOST_TEXT = 70;
    // Each command but the last takes two characters at least, with its ";".
    private static final int MOST_COMMANDS = 35;
    private static final int BOARD_LINE = 29;
    private static final int WRONG_TEXT = -100;
    /** They bring 1/25, the smallest share but 0, to 1 or more. */
    private static final int MOST_DOUBLINGS = 5;

    private static final int EMPTY = 0;
    private static final int WHITE_KING = 1;
    private static final int QUEEN = 2;
    private static final int ROOK = 3;
    private static final int BISHOP = 4;
    private static final int KNIGHT = 5;
    private static final int STONE = 6;
    private static final int BLACK_KING = 7;

    // Commands of a text that put something are told by its kind, the others by these.
    private static final int LIFT = 8;
    private static final int PLAY = 9;
    private static final int TURN = 10;
    private static final int MIRROR = 11;
    private static final int THRIFT = 12;

    private static final int OTHER_MOVE = 0;
    private static final int DULL = 1;
    private static final int TRY = 2;
    private static final int KEY = 3;
    private static final int MOVE_KINDS = 4;

    private static final int NOT_EMPTY = 1;
    private static final int SECOND_KING = 2;
    private static final int FULL = 3;
    private static final int NOTHING_THERE = 4;
    private static final int NO_SUCH_MOVE = 5;
    private static final int NO_SPARE = 6;
    private static final int NOT_FIT = 7;

    /** The bit of an outlook that tells an attacked black king; the bits below are squares. */
    private static final int CHECK = 1 << SQUARES;

    /** By kind, as lines and texts write it. */
    private static final String LETTERS = ".KQRBN#k";
    /** By kind of move, behind the line about it; the first kind has no sign. */
    private static final String MOVE_SIGNS = " =+#";

    // Directions: 0 to 3 are straight, 4 to 7 slanting, 8 to 15 the knight's leaps.
    private static final int SLANTING = 4;
    private static final int LEAPS = 8;
    private static final int DIRECTIONS = 16;
    private static final int[] STEP_COLUMNS = {1, 0, -1, 0, 1, -1, -1, 1, 1, 2, 2, 1, -1, -2, -2, -1};
    private static final int[] STEP_ROWS = {0, 1, 0, -1, 1, 1, -1, -1, 2, 1, -1, -2, -2, -1, 1, 2};

    private final Position now = new Position();
    /** The position ahead of the change that is under way. */
    private final Position before = new Position();
    /** A position in which something is tried out; every use fills it anew. */
    private final Position trial = new Position();
    private final Position saved = new Position();
    private boolean hasSaved;
    private final History history = new History();
    private final MoveTable moves = new MoveTable();
    private final MoveTable keys = new MoveTable();
    private final int[] tally = new int[MOVE_KINDS];
    private final int[] moveCounts = new int[SQUARES];
    private final Line line = new Line();
    private final Script script = new Script();
    /** The number of the command that is carried out, NOTHING outside of read. */
    private int command = NOTHING;
    private int reason;
    private int detail;
    private int refusedCommand;

    public MateKeys() {
    }

    // ---- the board

    public int put(int kind, int square) {
        before.copyFrom(now);
        return keep(putNow(kind, square));
    }

    public int lift(int square) {
        before.copyFrom(now);
        return keep(liftNow(square));
    }

    public int play(int from, int to) {
        before.copyFrom(now);
        return keep(playNow(from, to));
    }

    public int turn() {
        before.copyFrom(now);
        return keep(turnNow());
    }

    public int mirror() {
        before.copyFrom(now);
        return keep(mirrorNow());
    }

    public int thrift() {
        before.copyFrom(now);
        return keep(thriftNow());
    }

    public int at(int square) {
        return isSquare(square) ? now.manOn(square) : NONE;
    }

    // ---- attacks, moves

    public int attackers(int square) {
        return isSquare(square) ? now.countManByMan(square) : NONE;
    }

    public int attackersAgain(int square) {
        return isSquare(square) ? now.countLineByLine(square) : NONE;
    }

    public int manOf(int square, int what) {
        if (!isSquare(square)) {
            return NONE;
        }
        if (what < 0 || what > 3) {
            return BAD;
        }
        if (now.manOn(square) == EMPTY) {
            return NOTHING;
        }
        if (what == 0) {
            return bitsOf(now.reach(square));
        }
        if (what == 1) {
            return bitsOf(now.movesFrom(square));
        }
        if (!now.fits()) {
            return NOTHING;
        }
        if (what == 2) {
            return bitsOf(now.keysFrom(square));
        }
        keys.fillWithKeys(now);
        return canSpare(square) ? 1 : 0;
    }

    public int move(int place) {
        moves.fillWithMoves(now);
        return moves.pick(place);
    }

    public int escapes() {
        if (now.squareOf(BLACK_KING) < 0) {
            return NOTHING;
        }
        return squaresIn(now.outlook());
    }

    public int isFit() {
        return now.fits() ? 1 : 0;
    }

    // ---- problems

    public int key(int place) {
        if (!now.fits()) {
            return NOTHING;
        }
        keys.fillWithKeys(now);
        return keys.pick(place);
    }

    public int kind(int from, int to) {
        if (!now.hasMove(from, to)) {
            return NONE;
        }
        if (!now.fits()) {
            return NOTHING;
        }
        return now.kindOfMove(from, to);
    }

    public int refutation(int from, int to) {
        if (!isSquare(from) || !isSquare(to)) {
            return NONE;
        }
        if (!now.fits()) {
            return NOTHING;
        }
        if (!now.hasMove(from, to) || now.kindOfMove(from, to) != TRY) {
            return NONE;
        }
        return lowestIn(squaresIn(now.outlookBehind(from, to)));
    }

    public int many(int kind) {
        if (kind < 0 || kind >= MOVE_KINDS) {
            return BAD;
        }
        if (!now.fits()) {
            return NOTHING;
        }
        fillTally();
        return tally[kind];
    }

    public int duals() {
        if (!now.fits()) {
            return NOTHING;
        }
        keys.fillWithKeys(now);
        int count = keys.count();
        return count > 0 ? count - 1 : 0;
    }

    public int would(int kind, int square) {
        if (!isSquare(square) || isKing(now.manOn(square))) {
            return NONE;
        }
        if (kind < EMPTY || kind > STONE) {
            return BAD;
        }
        if (kind == WHITE_KING && now.squareOf(WHITE_KING) >= 0) {
            return BAD;
        }
        trial.copyFrom(now);
        trial.setMan(square, kind);
        // The limit of men and stones is put's alone: of 13 the number is told as of any other.
        if (!trial.fits()) {
            return NOTHING;
        }
        keys.fillWithKeys(trial);
        return keys.count();
    }

    public int ranked(int place) {
        for (int square = 0; square < SQUARES; square++) {
            moveCounts[square] = bitsOf(now.movesFrom(square));
        }
        for (int square = 0; square < SQUARES; square++) {
            if (isWhite(now.manOn(square)) && placeInOrder(square) == place) {
                return square;
            }
        }
        return NONE;
    }

    // ---- lines, texts, accounts

    public int show() {
        line.clear();
        for (int row = WIDTH - 1; row >= 0; row--) {
            for (int column = 0; column < WIDTH; column++) {
                line.writeMan(now.manOn(row * WIDTH + column));
            }
            if (row > 0) {
                line.write('/');
            }
        }
        return line.length;
    }

    public int tell(int from, int to) {
        if (!now.hasMove(from, to)) {
            return NONE;
        }
        if (!now.fits()) {
            return NOTHING;
        }
        line.clear();
        line.writeMan(now.manOn(from));
        line.writeSquare(from);
        line.write(now.manOn(to) == STONE ? 'x' : '-');
        line.writeSquare(to);
        line.writeMoveSign(now.kindOfMove(from, to));
        return line.length;
    }

    public int sign(int index) {
        return line.codeAt(index);
    }

    public int append(int code) {
        return script.add(code);
    }

    public int read() {
        int fault = script.findFault();
        script.clear();
        if (fault >= 0) {
            return WRONG_TEXT - fault;
        }
        before.copyFrom(now);
        int answer = 0;
        int count = script.commands;
        // The dispatch stands here and not in a method of its own to keep the calls few deep.
        for (int i = 0; i < count && answer >= 0; i++) {
            command = i;
            int what = script.whatOf(i);
            int square = script.squareOf(i);
            if (what == LIFT) {
                answer = liftNow(square);
            } else if (what == PLAY) {
                answer = playNow(script.originOf(i), square);
            } else if (what == TURN) {
                answer = turnNow();
            } else if (what == MIRROR) {
                answer = mirrorNow();
            } else if (what == THRIFT) {
                answer = thriftNow();
            } else {
                answer = putNow(what, square);
            }
        }
        command = NOTHING;
        if (answer < 0) {
            now.copyFrom(before);
            return REFUSED;
        }
        history.push(before);
        return count;
    }

    public int refusal(int what) {
        if (what < 0 || what > 2) {
            return BAD;
        }
        if (reason == 0) {
            return NOTHING;
        }
        if (what == 0) {
            return reason;
        }
        return what == 1 ? detail : refusedCommand;
    }

    public int account(int what) {
        switch (what) {
            case 0:
                return now.countAll();
            case 1:
                return now.countKinds(WHITE_KING, KNIGHT);
            case 2:
                return now.countKinds(STONE, STONE);
            case 3:
                return now.squareOf(BLACK_KING) < 0 ? NOTHING : now.squareOf(BLACK_KING);
            case 4:
                moves.fillWithMoves(now);
                return moves.count();
            case 5:
                return bitsOf(now.covered());
            case 6:
                return now.played;
            case 7:
                return now.taken;
            case 8:
                return now.spared;
            case 9:
                return now.turned;
            case 10:
                return script.length;
            case 11:
                return history.size;
            default:
                return BAD;
        }
    }

    public int isWell() {
        for (int square = 0; square < SQUARES; square++) {
            if (now.countManByMan(square) != now.countLineByLine(square)) {
                return 0;
            }
        }
        if (!now.fits()) {
            return 1;
        }
        return kindsAreAllMoves() && keysLeaveNoFlight() ? 1 : 0;
    }

    public int share() {
        float covered = (float) bitsOf(now.covered());
        return bitsOfShare(covered / (float) SQUARES);
    }

    // ---- undo and snapshot

    public int undo() {
        if (history.size == 0) {
            return NOTHING;
        }
        history.pop(now);
        return history.size;
    }

    public int save() {
        saved.copyFrom(now);
        hasSaved = true;
        return now.countAll();
    }

    public int restore() {
        if (!hasSaved) {
            return NOTHING;
        }
        now.copyFrom(saved);
        history.clear();
        return now.countAll();
    }

    // ---- the changes themselves: each leaves the position as it was if it answers below 0

    private int putNow(int kind, int square) {
        if (!isSquare(square)) {
            return NONE;
        }
        if (kind < WHITE_KING || kind > BLACK_KING) {
            return BAD;
        }
        if (now.manOn(square) != EMPTY) {
            return refuse(NOT_EMPTY, now.manOn(square));
        }
        if (isKing(kind) && now.squareOf(kind) >= 0) {
            return refuse(SECOND_KING, now.squareOf(kind));
        }
        if (now.countAll() >= MOST_MEN) {
            return refuse(FULL, MOST_MEN);
        }
        now.setMan(square, kind);
        return now.countAll();
    }

    private int liftNow(int square) {
        if (!isSquare(square)) {
            return NONE;
        }
        int man = now.manOn(square);
        if (man == EMPTY) {
            return refuse(NOTHING_THERE, square);
        }
        now.setMan(square, EMPTY);
        return man;
    }

    private int playNow(int from, int to) {
        if (!isSquare(from) || !isSquare(to)) {
            return NONE;
        }
        int man = now.manOn(from);
        if (man == EMPTY) {
            return refuse(NOTHING_THERE, from);
        }
        if (!now.hasMove(from, to)) {
            return refuse(NO_SUCH_MOVE, man);
        }
        int there = now.manOn(to);
        now.setMan(from, EMPTY);
        now.setMan(to, man);
        now.played++;
        if (there == STONE) {
            now.taken++;
        }
        return there;
    }

    private int turnNow() {
        trial.copyFrom(now);
        for (int square = 0; square < SQUARES; square++) {
            int column = square % WIDTH;
            int row = square / WIDTH;
            now.setMan((WIDTH - 1 - column) * WIDTH + row, trial.manOn(square));
        }
        now.turned++;
        return now.countAll();
    }

    private int mirrorNow() {
        trial.copyFrom(now);
        for (int square = 0; square < SQUARES; square++) {
            int column = square % WIDTH;
            int row = square / WIDTH;
            now.setMan(row * WIDTH + WIDTH - 1 - column, trial.manOn(square));
        }
        now.turned++;
        return now.countAll();
    }

    private int thriftNow() {
        if (!now.fits()) {
            int king = now.squareOf(BLACK_KING);
            return refuse(NOT_FIT, king < 0 ? 0 : now.countManByMan(king));
        }
        // Filled once: what is spared leaves the keys as they are.
        keys.fillWithKeys(now);
        int off = 0;
        for (int round = 0; round < MOST_MEN; round++) {
            int square = SQUARES - 1;
            while (square >= 0 && !canSpare(square)) {
                square--;
            }
            if (square < 0) {
                break;
            }
            now.setMan(square, EMPTY);
            off++;
        }
        if (off == 0) {
            return refuse(NO_SPARE, now.countAll());
        }
        now.spared += off;
        return off;
    }

    /** Makes a change undoable if it succeeded. */
    private int keep(int answer) {
        if (answer >= 0) {
            history.push(before);
        }
        return answer;
    }

    private int refuse(int why, int about) {
        reason = why;
        detail = about;
        refusedCommand = command;
        return REFUSED;
    }

    // ---- problems, looked at more closely

    /**
     * Whether what is on the square can be spared in a fit position whose keys the table holds.
     * The man of the key told needs no test: without it that key is gone.
     */
    private boolean canSpare(int square) {
        int man = now.manOn(square);
        if (man == EMPTY || isKing(man) || keys.count() == 0) {
            return false;
        }
        trial.copyFrom(now);
        trial.setMan(square, EMPTY);
        if (!trial.fits()) {
            return false;
        }
        for (int from = 0; from < SQUARES; from++) {
            if (trial.keysFrom(from) != keys.targets[from]) {
                return false;
            }
        }
        return true;
    }

    /** Counts the moves of each kind. */
    private void fillTally() {
        for (int i = 0; i < MOVE_KINDS; i++) {
            tally[i] = 0;
        }
        for (int from = 0; from < SQUARES; from++) {
            int targets = now.movesFrom(from);
            for (int to = 0; to < SQUARES; to++) {
                if (hasSquare(targets, to)) {
                    countKind(now.kindOfMove(from, to));
                }
            }
        }
    }

    private void countKind(int kindOfMove) {
        if (kindOfMove >= 0 && kindOfMove < MOVE_KINDS) {
            tally[kindOfMove]++;
        }
    }

    private boolean kindsAreAllMoves() {
        fillTally();
        moves.fillWithMoves(now);
        return tally[KEY] + tally[TRY] + tally[DULL] + tally[OTHER_MOVE] == moves.count();
    }

    private boolean keysLeaveNoFlight() {
        keys.fillWithKeys(now);
        for (int from = 0; from < SQUARES; from++) {
            for (int to = 0; to < SQUARES; to++) {
                if (hasSquare(keys.targets[from], to) && squaresIn(now.outlookBehind(from, to)) != 0) {
                    return false;
                }
            }
        }
        return true;
    }

    /** How many white men come ahead of this square's one, by the move counts. */
    private int placeInOrder(int square) {
        if (!isSquare(square)) {
            return NONE;
        }
        int ahead = 0;
        for (int other = 0; other < SQUARES; other++) {
            boolean more = moveCounts[other] > moveCounts[square];
            boolean lower = moveCounts[other] == moveCounts[square] && other < square;
            if (isWhite(now.manOn(other)) && (more || lower)) {
                ahead++;
            }
        }
        return ahead;
    }

    // ---- small questions

    private static boolean isSquare(int square) {
        return square >= 0 && square < SQUARES;
    }

    private static boolean isWhite(int man) {
        return man >= WHITE_KING && man <= KNIGHT;
    }

    private static boolean isKing(int man) {
        return man == WHITE_KING || man == BLACK_KING;
    }

    private static boolean hasSquare(int set, int square) {
        return isSquare(square) && (set >> square & 1) != 0;
    }

    private static int squaresIn(int outlook) {
        return outlook & (CHECK - 1);
    }

    private static int bitsOf(int set) {
        int count = 0;
        for (int square = 0; square < SQUARES; square++) {
            count += set >> square & 1;
        }
        return count;
    }

    private static int lowestIn(int set) {
        for (int square = 0; square < SQUARES; square++) {
            if ((set >> square & 1) != 0) {
                return square;
            }
        }
        return NONE;
    }

    /**
     * The bits of a float that is 0, or 1/25 to 1. The library that the program keeps to has no
     * Float.floatToIntBits; doubling and taking off 1 lose nothing here.
     */
    private static int bitsOfShare(float share) {
        if (share <= 0f) {
            return 0;
        }
        float fraction = share;
        int exponent = 127;
        for (int i = 0; i < MOST_DOUBLINGS && fraction < 1f; i++) {
            fraction = fraction * 2f;
            exponent--;
        }
        return (exponent << 23) + (int) ((fraction - 1f) * 8388608f);
    }

    /** What changes can change: the board, and the counts of what was done so far. */
    private static final class Position {
        private final int[] men = new int[SQUARES];
        int played;
        int taken;
        int spared;
        int turned;

        void copyFrom(Position other) {
            for (int square = 0; square < SQUARES; square++) {
                men[square] = other.men[square];
            }
            played = other.played;
            taken = other.taken;
            spared = other.spared;
            turned = other.turned;
        }

        int manOn(int square) {
            return isSquare(square) ? men[square] : EMPTY;
        }

        void setMan(int square, int kind) {
            if (isSquare(square)) {
                men[square] = kind;
            }
        }

        int countAll() {
            return countKinds(WHITE_KING, BLACK_KING);
        }

        int countKinds(int first, int last) {
            int count = 0;
            for (int square = 0; square < SQUARES; square++) {
                if (men[square] >= first && men[square] <= last) {
                    count++;
                }
            }
            return count;
        }

        /** The lowest square with this kind, NONE without one. */
        int squareOf(int kind) {
            for (int square = 0; square < SQUARES; square++) {
                if (men[square] == kind) {
                    return square;
                }
            }
            return NONE;
        }

        boolean fits() {
            int king = squareOf(BLACK_KING);
            // The white king beside the black one attacks it, so that this asks for both.
            return king >= 0 && countLineByLine(king) == 0;
        }

        /** The squares that the man there attacks. */
        int reach(int from) {
            if (from < 0 || from >= SQUARES || men[from] == EMPTY || men[from] == STONE) {
                return 0;
            }
            int man = men[from];
            int first = man == KNIGHT ? LEAPS : man == BISHOP ? SLANTING : 0;
            int end = man == KNIGHT ? DIRECTIONS : man == ROOK ? SLANTING : LEAPS;
            int steps = man == QUEEN || man == ROOK || man == BISHOP ? WIDTH - 1 : 1;
            int set = 0;
            for (int direction = first; direction < end && direction < DIRECTIONS; direction++) {
                int column = from % WIDTH;
                int row = from / WIDTH;
                for (int step = 0; step < steps; step++) {
                    column += STEP_COLUMNS[direction];
                    row += STEP_ROWS[direction];
                    if (column < 0 || column >= WIDTH || row < 0 || row >= WIDTH) {
                        break;
                    }
                    set |= 1 << (row * WIDTH + column);
                    if (men[row * WIDTH + column] != EMPTY) {
                        break;
                    }
                }
            }
            return set;
        }

        /** The squares that White attacks. */
        int covered() {
            int set = 0;
            for (int square = 0; square < SQUARES; square++) {
                if (isWhite(men[square])) {
                    set |= reach(square);
                }
            }
            return set;
        }

        int countManByMan(int square) {
            int count = 0;
            for (int from = 0; from < SQUARES; from++) {
                if (isWhite(men[from]) && hasSquare(reach(from), square)) {
                    count++;
                }
            }
            return count;
        }

        int countLineByLine(int square) {
            int count = 0;
            for (int direction = 0; direction < DIRECTIONS; direction++) {
                if (isMetIn(square, direction)) {
                    count++;
                }
            }
            return count;
        }

        /** Whether the first one that is met in this direction is a white man that attacks back. */
        private boolean isMetIn(int square, int direction) {
            if (!isSquare(square) || direction < 0 || direction >= DIRECTIONS) {
                return false;
            }
            int column = square % WIDTH;
            int row = square / WIDTH;
            int steps = direction < LEAPS ? WIDTH - 1 : 1;
            for (int step = 0; step < steps; step++) {
                column += STEP_COLUMNS[direction];
                row += STEP_ROWS[direction];
                if (column < 0 || column >= WIDTH || row < 0 || row >= WIDTH) {
                    return false;
                }
                int man = men[row * WIDTH + column];
                if (man != EMPTY) {
                    return attacksAlong(man, direction, step);
                }
            }
            return false;
        }

        private static boolean attacksAlong(int man, int direction, int squaresBetween) {
            if (direction >= LEAPS) {
                return man == KNIGHT;
            }
            if (man == WHITE_KING) {
                return squaresBetween == 0;
            }
            return man == QUEEN || man == (direction < SLANTING ? ROOK : BISHOP);
        }

        /** The squares to which a white man can move, none for others. */
        int movesFrom(int from) {
            if (from < 0 || from >= SQUARES || !isWhite(men[from])) {
                return 0;
            }
            int barred = 0;
            for (int square = 0; square < SQUARES; square++) {
                if (isWhite(men[square]) || men[square] == BLACK_KING) {
                    barred |= 1 << square;
                }
            }
            if (men[from] == WHITE_KING) {
                barred |= reach(squareOf(BLACK_KING));
            }
            return reach(from) & ~barred;
        }

        boolean hasMove(int from, int to) {
            return isSquare(from) && isSquare(to) && hasSquare(movesFrom(from), to);
        }

        /** The squares to which the black king can move, and CHECK if it is attacked. */
        int outlook() {
            int king = squareOf(BLACK_KING);
            if (king < 0 || king >= SQUARES) {
                return 0;
            }
            int beside = reach(king);
            int stones = 0;
            int covered = 0;
            // Lines go on over the square that the king leaves.
            men[king] = EMPTY;
            for (int square = 0; square < SQUARES; square++) {
                if (isWhite(men[square])) {
                    covered |= reach(square);
                } else if (men[square] == STONE) {
                    stones |= 1 << square;
                }
            }
            men[king] = BLACK_KING;
            int check = (covered >> king & 1) != 0 ? CHECK : 0;
            return (beside & ~stones & ~covered) | check;
        }

        /** The outlook behind a move, which is taken back at once. */
        int outlookBehind(int from, int to) {
            if (from < 0 || from >= SQUARES || to < 0 || to >= SQUARES) {
                return 0;
            }
            int man = men[from];
            int there = men[to];
            men[from] = EMPTY;
            men[to] = man;
            int outlook = outlook();
            men[to] = there;
            men[from] = man;
            return outlook;
        }

        /** What a move is; the position has to be fit. */
        int kindOfMove(int from, int to) {
            int outlook = outlookBehind(from, to);
            boolean attacked = (outlook & CHECK) != 0;
            boolean canMove = squaresIn(outlook) != 0;
            if (attacked) {
                return canMove ? TRY : KEY;
            }
            return canMove ? OTHER_MOVE : DULL;
        }

        /** The squares to which keys go from this one; the position has to be fit. */
        int keysFrom(int from) {
            int targets = movesFrom(from);
            int set = 0;
            for (int to = 0; to < SQUARES; to++) {
                if ((targets >> to & 1) != 0 && outlookBehind(from, to) == CHECK) {
                    set |= 1 << to;
                }
            }
            return set;
        }
    }

    /** Moves, by the square from which they are. */
    private static final class MoveTable {
        final int[] targets = new int[SQUARES];

        void fillWithMoves(Position position) {
            for (int from = 0; from < SQUARES; from++) {
                targets[from] = position.movesFrom(from);
            }
        }

        void fillWithKeys(Position position) {
            for (int from = 0; from < SQUARES; from++) {
                targets[from] = position.keysFrom(from);
            }
        }

        int count() {
            int count = 0;
            for (int from = 0; from < SQUARES; from++) {
                count += bitsOf(targets[from]);
            }
            return count;
        }

        /** The move at a place among all, by their numbers. */
        int pick(int place) {
            int passed = 0;
            for (int from = 0; from < SQUARES; from++) {
                for (int to = 0; to < SQUARES; to++) {
                    if (hasSquare(targets[from], to)) {
                        if (passed == place) {
                            return 100 * from + to;
                        }
                        passed++;
                    }
                }
            }
            return NONE;
        }
    }

    /** The positions ahead of the latest changes, in a ring. */
    private static final class History {
        private final Position[] rows = new Position[MOST_UNDO];
        private int next;
        int size;

        History() {
            for (int i = 0; i < MOST_UNDO; i++) {
                rows[i] = new Position();
            }
        }

        void push(Position position) {
            Position row = rowAt(next);
            if (row == null) {
                return;
            }
            row.copyFrom(position);
            next = next + 1 < MOST_UNDO ? next + 1 : 0;
            if (size < MOST_UNDO) {
                size++;
            }
        }

        void pop(Position target) {
            int latest = next > 0 ? next - 1 : MOST_UNDO - 1;
            Position row = rowAt(latest);
            if (row == null || size == 0) {
                return;
            }
            target.copyFrom(row);
            next = latest;
            size--;
        }

        void clear() {
            next = 0;
            size = 0;
        }

        private Position rowAt(int index) {
            return index >= 0 && index < MOST_UNDO ? rows[index] : null;
        }
    }

    /** The line that was written last. */
    private static final class Line {
        private final int[] codes = new int[BOARD_LINE];
        int length;

        void clear() {
            length = 0;
        }

        void write(int code) {
            if (length >= 0 && length < BOARD_LINE) {
                codes[length] = code;
                length++;
            }
        }

        void writeMan(int man) {
            if (man >= 0 && man < LETTERS.length()) {
                write(LETTERS.charAt(man));
            }
        }

        void writeSquare(int square) {
            write('a' + square % WIDTH);
            write('1' + square / WIDTH);
        }

        void writeMoveSign(int kindOfMove) {
            if (kindOfMove > OTHER_MOVE && kindOfMove < MOVE_SIGNS.length()) {
                write(MOVE_SIGNS.charAt(kindOfMove));
            }
        }

        int codeAt(int index) {
            return index >= 0 && index < length && index < BOARD_LINE ? codes[index] : NONE;
        }
    }

    /** The text, and the commands that were found in it. */
    private static final class Script {
        // What has to come next in the text.
        private static final int COMMAND = 0;
        private static final int ORIGIN_ROW = 1;
        private static final int DASH = 2;
        private static final int COLUMN = 3;
        private static final int ROW = 4;
        private static final int SEMICOLON = 5;
        private static final int WRONG = -1;

        private final int[] codes = new int[MOST_TEXT];
        int length;
        private final int[] whats = new int[MOST_COMMANDS];
        private final int[] origins = new int[MOST_COMMANDS];
        private final int[] squares = new int[MOST_COMMANDS];
        int commands;
        // The command that is being read.
        private int what;
        private int column;
        private int origin;
        private int square;

        int add(int code) {
            if (code < 32 || code > 126 || length < 0 || length >= MOST_TEXT) {
                return BAD;
            }
            codes[length] = code;
            length++;
            return length;
        }

        /** Empties the text; the commands that were found in it stay. */
        void clear() {
            length = 0;
        }

        /** Finds the commands. Returns the fault position, NONE if the text is right. */
        int findFault() {
            commands = 0;
            int due = COMMAND;
            for (int i = 0; i < length && i < MOST_TEXT; i++) {
                due = dueBehind(due, codes[i]);
                if (due == WRONG) {
                    return i;
                }
                if (due == SEMICOLON) {
                    keepCommand();
                }
            }
            return due == SEMICOLON ? NONE : length;
        }

        private void keepCommand() {
            if (commands >= 0 && commands < MOST_COMMANDS) {
                whats[commands] = what;
                origins[commands] = origin;
                squares[commands] = square;
                commands++;
            }
        }

        /** What has to come behind this character, WRONG if it may not stand here. */
        private int dueBehind(int due, int code) {
            switch (due) {
                case COMMAND:
                    return dueBehindFirst(code);
                case ORIGIN_ROW:
                    origin = squareIn(code);
                    return origin < 0 ? WRONG : DASH;
                case DASH:
                    return code == '-' ? COLUMN : WRONG;
                case COLUMN:
                    column = code - 'a';
                    return isLine(column) ? ROW : WRONG;
                case ROW:
                    square = squareIn(code);
                    return square < 0 ? WRONG : SEMICOLON;
                case SEMICOLON:
                    return code == ';' ? COMMAND : WRONG;
                default:
                    return WRONG;
            }
        }

        /** What has to come behind the first character of a command. */
        private int dueBehindFirst(int code) {
            origin = NONE;
            square = NONE;
            column = code - 'a';
            if (isLine(column)) {
                what = PLAY;
                return ORIGIN_ROW;
            }
            if (code == '-') {
                what = LIFT;
                return COLUMN;
            }
            if (code == 't' || code == 'm' || code == 's') {
                what = code == 't' ? TURN : code == 'm' ? MIRROR : THRIFT;
                return SEMICOLON;
            }
            what = LETTERS.indexOf((char) code);
            return what > EMPTY ? COLUMN : WRONG;
        }

        /** The square in the column that was read last, NONE if there is no such row. */
        private int squareIn(int code) {
            int row = code - '1';
            return isLine(row) ? row * WIDTH + column : NONE;
        }

        private static boolean isLine(int number) {
            return number >= 0 && number < WIDTH;
        }

        int whatOf(int index) {
            return index >= 0 && index < MOST_COMMANDS ? whats[index] : NONE;
        }

        int originOf(int index) {
            return index >= 0 && index < MOST_COMMANDS ? origins[index] : NONE;
        }

        int squareOf(int index) {
            return index >= 0 && index < MOST_COMMANDS ? squares[index] : NONE;
        }
    }
}
