/** Promises 9 to 14: attackers, attackersAgain, manOf, move, escapes, isFit. */
public final class AttacksTest {
    private static final CheckKit CHECK = new CheckKit();

    public static void main(String[] args) {
        queen();
        rook();
        bishop();
        knight();
        king();
        attackersTogether();
        noAttackers();
        squareErrors();
        manOf();
        manOfErrors();
        move();
        escapes();
        escapesByTaking();
        isFit();
        CHECK.finish();
    }

    /** Each square of the set is attacked once, the others are not, by both ways. */
    private static void attacked(String board, int set) {
        MateKeys x = CheckKit.board(board);
        for (int square = 0; square < 25; square++) {
            int due = set >> square & 1;
            CHECK.due(board + ": attackers " + square, x.attackers(square), due);
            CHECK.due(board + ": attackersAgain " + square, x.attackersAgain(square), due);
        }
        CHECK.due(board + ": attacked squares", x.account(5), Integer.bitCount(set));
        CHECK.due(board + ": isWell", x.isWell(), 1);
    }

    private static void queen() {
        int leaps = CheckKit.set("a2", "a4", "b1", "b5", "d1", "d5", "e2", "e4", "c3");
        attacked("...../...../..Q../...../.....", ~leaps & (1 << 25) - 1);
        attacked("...../.#.../.#Q#./.###./.....",
            CheckKit.set("b4", "b3", "d3", "b2", "c2", "d2", "c4", "c5", "d4", "e5"));
    }

    private static void rook() {
        attacked("...../...../...../...../R....",
            CheckKit.set("b1", "c1", "d1", "e1", "a2", "a3", "a4", "a5"));
        // The black king ends a line as a stone does.
        attacked("..k../..#../..R.#/...../.....",
            CheckKit.set("c4", "a3", "b3", "d3", "e3", "c2", "c1"));
        attacked("..#../..k../k.R../...../.....", CheckKit.set("c4", "a3", "b3", "d3", "e3", "c2", "c1"));
    }

    private static void bishop() {
        attacked("....B/...../...../...../.....", CheckKit.set("d4", "c3", "b2", "a1"));
        attacked("...../.#.k./..B../.#.../.....", CheckKit.set("b4", "d4", "b2", "d2", "e1"));
    }

    private static void knight() {
        attacked("...../...../..N../...../.....",
            CheckKit.set("a2", "a4", "b1", "b5", "d1", "d5", "e2", "e4"));
        attacked("...../...../...../##.../N#...", CheckKit.set("b3", "c2"));
        attacked("...../...../...../....N/.....", CheckKit.set("c1", "c3", "d4"));
    }

    private static void king() {
        attacked("...../...../..K../...../.....",
            CheckKit.set("b2", "c2", "d2", "b3", "d3", "b4", "c4", "d4"));
        attacked("...K./...../...../...../.....", CheckKit.set("c5", "e5", "c4", "d4", "e4"));
    }

    private static void attackersTogether() {
        MateKeys x = CheckKit.board("....k/..R../K.B../..N../R.Q..");
        // c3: the rook on c4; the queen's line ends at c2.
        CHECK.due("attackers of c3", x.attackers(12), 1);
        CHECK.due("attackersAgain of c3", x.attackersAgain(12), 1);
        // a3, where the king is: the rook on a1, the queen and the knight.
        CHECK.due("attackers of a3", x.attackers(10), 3);
        CHECK.due("attackersAgain of a3", x.attackersAgain(10), 3);
        // b2: the king, the queen and the bishop.
        CHECK.due("attackers of b2", x.attackers(6), 3);
        CHECK.due("attackersAgain of b2", x.attackersAgain(6), 3);
        // a1, where a rook is: the bishop, the queen and the knight, but not the rook itself.
        CHECK.due("attackers of a1", x.attackers(0), 3);
        CHECK.due("attackersAgain of a1", x.attackersAgain(0), 3);
    }

    private static void noAttackers() {
        attacked("...../.k.../...../..#../.....", 0);
        attacked("...../...../...../...../.....", 0);
    }

    private static void squareErrors() {
        MateKeys x = CheckKit.board("...../...../..Q../...../.....");
        int[] squares = {-1, 25, 37, Integer.MIN_VALUE, Integer.MAX_VALUE};
        for (int square : squares) {
            CHECK.due("attackers " + square, x.attackers(square), MateKeys.NONE);
            CHECK.due("attackersAgain " + square, x.attackersAgain(square), MateKeys.NONE);
        }
    }

    private static void manOf() {
        MateKeys x = CheckKit.board("k..../...../.K.../...../#.#.R");
        CHECK.due("squares of k", x.manOf(20, 0), 3);
        CHECK.due("moves of k", x.manOf(20, 1), 0);
        CHECK.due("keys of k", x.manOf(20, 2), 0);
        CHECK.due("k spared", x.manOf(20, 3), 0);
        CHECK.due("squares of K", x.manOf(11, 0), 8);
        CHECK.due("moves of K", x.manOf(11, 1), 6);
        CHECK.due("keys of K", x.manOf(11, 2), 0);
        CHECK.due("K spared", x.manOf(11, 3), 0);
        CHECK.due("squares of R", x.manOf(4, 0), 6);
        CHECK.due("moves of R", x.manOf(4, 1), 6);
        CHECK.due("keys of R", x.manOf(4, 2), 1);
        CHECK.due("R spared", x.manOf(4, 3), 0);
        CHECK.due("squares of #", x.manOf(0, 0), 0);
        CHECK.due("moves of #", x.manOf(0, 1), 0);
        CHECK.due("keys of #", x.manOf(0, 2), 0);
        CHECK.due("# spared", x.manOf(0, 3), 1);
        x = CheckKit.board("k..../...../.K.../...../...RR");
        CHECK.due("squares with an own man's", x.manOf(4, 0), 5);
        CHECK.due("moves without it", x.manOf(4, 1), 4);
        // Without one rook the lowest key or the other would be gone.
        CHECK.due("a man of a dual", x.manOf(4, 3), 0);
        CHECK.due("a man of the key", x.manOf(3, 3), 0);
        // Without the stone the position would not be fit.
        x = CheckKit.board("k..../#..../.K.../...../R...R");
        CHECK.due("a stone in a line", x.manOf(15, 3), 0);
        CHECK.due("the rook behind it", x.manOf(0, 3), 1);
        x = CheckKit.board("k..../...../...../..#../....R");
        CHECK.due("without a key", x.manOf(7, 3), 0);
    }

    private static void manOfErrors() {
        MateKeys x = CheckKit.board("k...R/...../...../...../#....");
        CHECK.due("no such square", x.manOf(25, 4), MateKeys.NONE);
        CHECK.due("no such square", x.manOf(-1, -1), MateKeys.NONE);
        CHECK.due("no such what", x.manOf(24, 4), MateKeys.BAD);
        CHECK.due("no such what", x.manOf(24, -1), MateKeys.BAD);
        CHECK.due("no such what of nothing", x.manOf(23, 4), MateKeys.BAD);
        for (int what = 0; what < 4; what++) {
            CHECK.due("nothing there", x.manOf(23, what), MateKeys.NOTHING);
        }
        CHECK.due("squares in no fit position", x.manOf(24, 0), 8);
        CHECK.due("moves in no fit position", x.manOf(24, 1), 7);
        int[] squares = {0, 20, 24};
        for (int square : squares) {
            CHECK.due("keys in no fit position", x.manOf(square, 2), MateKeys.NOTHING);
            CHECK.due("sparing in no fit position", x.manOf(square, 3), MateKeys.NOTHING);
        }
    }

    private static void move() {
        MateKeys x = CheckKit.board("...../...../...../..k.#/#.K.B");
        // The bishop's alone: all squares of the king are beside the black king.
        int[] due = {408, 412, 416, 420};
        for (int place = 0; place < due.length; place++) {
            CHECK.due("move " + place, x.move(place), due[place]);
        }
        CHECK.due("move 4", x.move(4), MateKeys.NONE);
        CHECK.due("move -1", x.move(-1), MateKeys.NONE);
        CHECK.due("the least move", x.move(Integer.MIN_VALUE), MateKeys.NONE);
        x = CheckKit.board("N..../...../.#.../...../K....");
        int[] both = {1, 5, 6, 2011, 2017};
        for (int place = 0; place < both.length; place++) {
            CHECK.due("move " + place, x.move(place), both[place]);
        }
        CHECK.due("moves", x.account(4), 5);
        CHECK.due("move 5", x.move(5), MateKeys.NONE);
    }

    private static void escapes() {
        CHECK.due("without a black king",
            CheckKit.board("...../...../..K../...../.....").escapes(), MateKeys.NOTHING);
        CHECK.due("a king alone", CheckKit.board("....k/...../...../...../.....").escapes(),
            CheckKit.set("d5", "d4", "e4"));
        CHECK.due("a king on a1", CheckKit.board("...../...../...../...../k....").escapes(),
            CheckKit.set("b1", "a2", "b2"));
        CHECK.due("beside stones", CheckKit.board("....k/...##/...../...../.....").escapes(),
            CheckKit.set("d5"));
        // The rook's line goes on over the king's square to d3.
        CHECK.due("along the line", CheckKit.board("...../...../R.k../...../.....").escapes(),
            CheckKit.set("b2", "c2", "d2", "b4", "c4", "d4"));
        CHECK.due("by a bishop", CheckKit.board("....B/...../..k../...../.....").escapes(),
            CheckKit.set("c2", "d2", "b3", "d3", "b4", "c4"));
        CHECK.due("a stone ends the line", CheckKit.board("...../...../R#k../...../.....").escapes(),
            CheckKit.set("b2", "c2", "d2", "d3", "b4", "c4", "d4"));
    }

    private static void escapesByTaking() {
        CHECK.due("takes a rook", CheckKit.board("kR.../...../...../...../.....").escapes(),
            CheckKit.set("b5", "a4"));
        CHECK.due("a guarded rook", CheckKit.board("kR.../..K../...../...../.....").escapes(),
            CheckKit.set("a4"));
        // What is taken does not guard the squares any more, but the others do.
        CHECK.due("takes a queen", CheckKit.board("k..../.Q.../...../...../.....").escapes(),
            CheckKit.set("b4"));
        // Where the position is not fit, the white king can be a white man there, too.
        CHECK.due("takes a king", CheckKit.board("...../..K../..k../...../.....").escapes(),
            CheckKit.set("b2", "c2", "d2", "c4"));
    }

    private static void isFit() {
        CHECK.due("empty", new MateKeys().isFit(), 0);
        CHECK.due("without a black king", CheckKit.board("...../...../..K../...../.....").isFit(), 0);
        CHECK.due("a black king alone", CheckKit.board("...../...../..k../...../.....").isFit(), 1);
        CHECK.due("kings apart", CheckKit.board("k.K../...../...../...../.....").isFit(), 1);
        CHECK.due("kings beside", CheckKit.board("kK.../...../...../...../.....").isFit(), 0);
        CHECK.due("kings over a corner", CheckKit.board("k..../.K.../...../...../.....").isFit(), 0);
        CHECK.due("attacked by a knight", CheckKit.board("k..../..N../...../...../.....").isFit(), 0);
        CHECK.due("attacked along a line", CheckKit.board("k...Q/...../...../...../.....").isFit(), 0);
        CHECK.due("behind a stone", CheckKit.board("k#..Q/...../...../...../.....").isFit(), 1);
        CHECK.due("behind a man", CheckKit.board("kB..Q/...../...../...../.....").isFit(), 1);
    }
}
