/** Promises 1 to 8: a new object, put, lift, play, turn, mirror, thrift, at. */
public final class BoardTest {
    private static final CheckKit CHECK = new CheckKit();

    public static void main(String[] args) {
        newObject();
        putAndItsErrors();
        putReasons();
        lift();
        play();
        playReasons();
        playTheKing();
        turn();
        mirror();
        thrift();
        thriftTimeAndAgain();
        thriftReasons();
        at();
        CHECK.finish();
    }

    private static void newObject() {
        MateKeys x = new MateKeys();
        for (int square = 0; square < 25; square++) {
            CHECK.due("new: at " + square, x.at(square), 0);
        }
        for (int what = 0; what < 12; what++) {
            CHECK.due("new: account " + what, x.account(what), what == 3 ? MateKeys.NOTHING : 0);
        }
        CHECK.due("new: sign", x.sign(0), MateKeys.NONE);
        CHECK.due("new: refusal", x.refusal(0), MateKeys.NOTHING);
        CHECK.due("new: undo", x.undo(), MateKeys.NOTHING);
        CHECK.due("new: restore", x.restore(), MateKeys.NOTHING);
    }

    private static void putAndItsErrors() {
        MateKeys x = new MateKeys();
        for (int kind = 1; kind <= 7; kind++) {
            CHECK.due("put " + kind, x.put(kind, kind * 3), kind);
            CHECK.due("at behind put " + kind, x.at(kind * 3), kind);
        }
        String state = CheckKit.state(x);
        int[] squares = {-1, 25, Integer.MIN_VALUE, Integer.MAX_VALUE};
        for (int square : squares) {
            CHECK.due("put 2 on " + square, x.put(2, square), MateKeys.NONE);
            CHECK.due("put 8 on " + square, x.put(8, square), MateKeys.NONE);
        }
        int[] kinds = {0, 8, -1, Integer.MIN_VALUE, Integer.MAX_VALUE};
        for (int kind : kinds) {
            CHECK.due("put " + kind, x.put(kind, 0), MateKeys.BAD);
            CHECK.due("put on a man: " + kind, x.put(kind, 3), MateKeys.BAD);
        }
        CHECK.due("nothing refused", x.refusal(0), MateKeys.NOTHING);
        CHECK.due("state", CheckKit.state(x), state);
        CHECK.due("put on a1", x.put(6, 0), 8);
        CHECK.due("put on e5", x.put(6, 24), 9);
    }

    private static void putReasons() {
        MateKeys x = CheckKit.board("k..../...../...../...../...K.");
        CHECK.refused(x, "a king on a king", x.put(1, 3), 1, 1);
        CHECK.refused(x, "black on black", x.put(7, 20), 1, 7);
        CHECK.refused(x, "a second white king", x.put(1, 4), 2, 3);
        CHECK.refused(x, "a second black king", x.put(7, 4), 2, 20);
        for (int square = 5; square < 15; square++) {
            CHECK.due("put a stone", x.put(6, square), square - 2);
        }
        String state = CheckKit.state(x);
        CHECK.refused(x, "a thirteenth", x.put(2, 0), 3, 12);
        CHECK.refused(x, "a thirteenth on a stone", x.put(2, 5), 1, 6);
        CHECK.refused(x, "a thirteenth king", x.put(1, 0), 2, 3);
        CHECK.due("state", CheckKit.state(x), state);
        x.lift(3);
        CHECK.due("a king again", x.put(1, 0), 12);
        CHECK.refused(x, "a king beside the one on a1", x.put(1, 1), 2, 0);
        x.lift(14);
        CHECK.due("a twelfth", x.put(5, 24), 12);
    }

    private static void lift() {
        MateKeys x = CheckKit.board("..k../...../N#.../...../KQRB.");
        int[] squares = {0, 1, 2, 3, 10, 11, 22};
        for (int i = 0; i < 7; i++) {
            CHECK.due("lift " + squares[i], x.lift(squares[i]), i + 1);
            CHECK.due("at behind lift", x.at(squares[i]), 0);
            CHECK.due("men behind lift", x.account(0), 6 - i);
        }
        String state = CheckKit.state(x);
        CHECK.refused(x, "lift nothing", x.lift(22), 4, 22);
        CHECK.refused(x, "lift nothing from a1", x.lift(0), 4, 0);
        CHECK.due("lift -1", x.lift(-1), MateKeys.NONE);
        CHECK.due("lift 25", x.lift(25), MateKeys.NONE);
        CHECK.due("lift the least", x.lift(Integer.MIN_VALUE), MateKeys.NONE);
        CHECK.due("state", CheckKit.state(x), state);
    }

    private static void play() {
        MateKeys x = CheckKit.board("....k/...../..#../...../..R..");
        CHECK.due("a rook takes a stone", x.play(2, 12), 6);
        CHECK.due("at its square", x.at(12), 3);
        CHECK.due("at its old square", x.at(2), 0);
        CHECK.due("played", x.account(6), 1);
        CHECK.due("taken", x.account(7), 1);
        CHECK.due("a rook moves", x.play(12, 10), 0);
        CHECK.due("played", x.account(6), 2);
        CHECK.due("taken", x.account(7), 1);
        CHECK.due("isFit", x.isFit(), 1);
        CHECK.due("a rook attacks the black king", x.play(10, 14), 0);
        CHECK.due("isFit", x.isFit(), 0);
        CHECK.due("a move in a position that is not fit", x.play(14, 19), 0);
        CHECK.due("played", x.account(6), 4);
    }

    private static void playReasons() {
        MateKeys x = CheckKit.board("k..../#..../...../#..../R.B.N");
        String state = CheckKit.state(x);
        CHECK.due("play from -1", x.play(-1, 0), MateKeys.NONE);
        CHECK.due("play from 25", x.play(25, 0), MateKeys.NONE);
        CHECK.due("play to -1", x.play(0, -1), MateKeys.NONE);
        CHECK.due("play to 25 from an empty square", x.play(1, 25), MateKeys.NONE);
        CHECK.refused(x, "play from an empty square", x.play(1, 2), 4, 1);
        CHECK.refused(x, "play from an empty square to itself", x.play(1, 1), 4, 1);
        CHECK.refused(x, "a rook to its own square", x.play(0, 0), 5, 3);
        CHECK.refused(x, "a rook on to a white man", x.play(0, 2), 5, 3);
        CHECK.refused(x, "a rook over a white man", x.play(0, 3), 5, 3);
        CHECK.refused(x, "a rook over a stone", x.play(0, 10), 5, 3);
        CHECK.refused(x, "a rook on a slanting line", x.play(0, 6), 5, 3);
        CHECK.refused(x, "a bishop straight", x.play(2, 7), 5, 4);
        CHECK.refused(x, "a knight beside it", x.play(4, 3), 5, 5);
        CHECK.refused(x, "a stone", x.play(5, 6), 5, 6);
        CHECK.refused(x, "the black king", x.play(20, 21), 5, 7);
        CHECK.refused(x, "the black king takes a stone", x.play(20, 15), 5, 7);
        CHECK.due("state", CheckKit.state(x), state);
        x.lift(15);
        x.lift(5);
        CHECK.refused(x, "a rook on to the black king", x.play(0, 20), 5, 3);
        CHECK.due("a rook beside the black king", x.play(0, 15), 0);
    }

    private static void playTheKing() {
        MateKeys x = CheckKit.board("k..../...../.K.../...../.....");
        CHECK.refused(x, "the king beside the other", x.play(11, 15), 5, 1);
        CHECK.refused(x, "the king beside it over a corner", x.play(11, 16), 5, 1);
        CHECK.due("the king moves", x.play(11, 17), 0);
        CHECK.refused(x, "the king two squares", x.play(17, 19), 5, 1);
        x.lift(20);
        CHECK.due("without the other", x.play(17, 16), 0);
        CHECK.due("without the other again", x.play(16, 15), 0);
        x.put(7, 20);
        CHECK.refused(x, "the king takes the other", x.play(15, 20), 5, 1);
        CHECK.due("the king goes off", x.play(15, 10), 0);
    }

    private static void turn() {
        int[] places = {
            20, 15, 10, 5, 0, 21, 16, 11, 6, 1, 22, 17, 12, 7, 2, 23, 18, 13, 8, 3, 24, 19, 14, 9, 4
        };
        for (int square = 0; square < 25; square++) {
            MateKeys x = new MateKeys();
            x.put(5, square);
            CHECK.due("turn", x.turn(), 1);
            CHECK.due("turn of " + square, x.at(places[square]), 5);
        }
        MateKeys x = CheckKit.board("K.Q../.R.../..B../...N./#...k");
        CHECK.due("turn", x.turn(), 7);
        CHECK.due("turned board", CheckKit.show(x), "#...K/...R./..B.Q/.N.../k....");
        CHECK.due("turns", x.account(9), 1);
        x.turn();
        x.turn();
        CHECK.due("turn", x.turn(), 7);
        CHECK.due("board turned in full", CheckKit.show(x), "K.Q../.R.../..B../...N./#...k");
        CHECK.due("turns", x.account(9), 4);
        CHECK.due("an empty board", new MateKeys().turn(), 0);
    }

    private static void mirror() {
        MateKeys x = CheckKit.board("KQ..R/.B.../N..../..#../....k");
        CHECK.due("mirror", x.mirror(), 7);
        CHECK.due("mirrored board", CheckKit.show(x), "R..QK/...B./....N/..#../k....");
        CHECK.due("mirrors", x.account(9), 1);
        CHECK.due("mirror", x.mirror(), 7);
        CHECK.due("board mirrored twice", CheckKit.show(x), "KQ..R/.B.../N..../..#../....k");
        x.turn();
        CHECK.due("turns and mirrors", x.account(9), 3);
        CHECK.due("an empty board", new MateKeys().mirror(), 0);
    }

    private static void thrift() {
        MateKeys x = CheckKit.board("k..../...../.K.../....R/...#R");
        CHECK.due("thrift", x.thrift(), 2);
        CHECK.due("the board", CheckKit.show(x), "k..../...../.K.../....R/.....");
        CHECK.due("spared", x.account(8), 2);
        CHECK.due("undoable", x.account(11), 6);
        CHECK.refused(x, "thrift again", x.thrift(), 6, 3);
        CHECK.due("spared", x.account(8), 2);
        CHECK.due("undoable", x.account(11), 6);
        x.put(6, 0);
        CHECK.due("thrift of one", x.thrift(), 1);
        CHECK.due("spared", x.account(8), 3);
        // The stone's removal would leave the king attacked, until the rook is off.
        x = CheckKit.board("k..../#..../.K.../...../R...R");
        CHECK.due("thrift behind a stone", x.thrift(), 2);
        CHECK.due("the board", CheckKit.show(x), "k..../...../.K.../...../....R");
    }

    private static void thriftTimeAndAgain() {
        // Without the stone on d3 there would be a second key, until the rook on d1 is off.
        MateKeys x = CheckKit.board("k..../...../.K.#./...../...RR");
        CHECK.due("the stone first", x.manOf(13, 3), 0);
        CHECK.due("thrift", x.thrift(), 2);
        CHECK.due("the board", CheckKit.show(x), "k..../...../.K.../...../....R");
        x = CheckKit.board("k...#/...../.K.../#..R./#....");
        CHECK.due("thrift from e5 to a1", x.thrift(), 3);
        CHECK.due("the board", CheckKit.show(x), "k..../...../.K.../...R./.....");
        // Of two guards that one can spare, the one on the higher square goes.
        x = CheckKit.board("k..../.#.../...../.N.../...BR");
        CHECK.due("the guard on d1", x.manOf(3, 3), 1);
        CHECK.due("the guard on b2", x.manOf(6, 3), 1);
        CHECK.due("thrift", x.thrift(), 1);
        CHECK.due("the board", CheckKit.show(x), "k..../.#.../...../...../...BR");
    }

    private static void thriftReasons() {
        MateKeys x = CheckKit.board("...../..#../...../...../....R");
        String state = CheckKit.state(x);
        CHECK.refused(x, "thrift without a black king", x.thrift(), 7, 0);
        CHECK.due("state", CheckKit.state(x), state);
        x = CheckKit.board("k...R/.K.../...../...../....R");
        CHECK.refused(x, "thrift of an attacked king", x.thrift(), 7, 2);
        x = CheckKit.board("R..../...../...../..N../k...R");
        CHECK.refused(x, "thrift of one on a1", x.thrift(), 7, 3);
        x = CheckKit.board("k..../...../...../..#../....R");
        state = CheckKit.state(x);
        CHECK.refused(x, "thrift without a key", x.thrift(), 6, 3);
        CHECK.due("state", CheckKit.state(x), state);
        x = CheckKit.board("k..../...../.K.../...../...RR");
        CHECK.refused(x, "thrift with a dual", x.thrift(), 6, 4);
    }

    private static void at() {
        MateKeys x = CheckKit.board("....k/...../...../...../K....");
        CHECK.due("at a1", x.at(0), 1);
        CHECK.due("at e5", x.at(24), 7);
        CHECK.due("at b1", x.at(1), 0);
        CHECK.due("at -1", x.at(-1), MateKeys.NONE);
        CHECK.due("at 25", x.at(25), MateKeys.NONE);
        CHECK.due("at the most", x.at(Integer.MAX_VALUE), MateKeys.NONE);
    }
}
