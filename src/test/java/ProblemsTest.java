/** Promises 15 to 21: key, kind, refutation, many, duals, would, ranked. */
public final class ProblemsTest {
    private static final CheckKit CHECK = new CheckKit();
    private static final String ONE_KEY = "k..../...../.K.../...../....R";
    private static final String DUAL = "k..../...../.K.../...../...RR";
    /** The queen's move to b3 leaves the black king without a move. */
    private static final String DULL = ".Q.../...../...../...../k....";
    private static final String NOT_FIT = "k...R/...../.K.../...../.....";

    public static void main(String[] args) {
        key();
        kind();
        kindErrors();
        guards();
        refutation();
        keysOfCorners();
        many();
        duals();
        would();
        wouldErrors();
        wouldOfThirteen();
        ranked();
        CHECK.finish();
    }

    private static void key() {
        MateKeys x = CheckKit.board(ONE_KEY);
        CHECK.due("key 0", x.key(0), 424);
        CHECK.due("key 1", x.key(1), MateKeys.NONE);
        CHECK.due("key -1", x.key(-1), MateKeys.NONE);
        x = CheckKit.board(DUAL);
        CHECK.due("key 0 of two", x.key(0), 323);
        CHECK.due("key 1 of two", x.key(1), 424);
        CHECK.due("key 2 of two", x.key(2), MateKeys.NONE);
        x = CheckKit.board(DULL);
        CHECK.due("no key", x.key(0), MateKeys.NONE);
        x = CheckKit.board(NOT_FIT);
        int[] places = {0, -1, 99, Integer.MIN_VALUE};
        for (int place : places) {
            CHECK.due("not fit: key " + place, x.key(place), MateKeys.NOTHING);
        }
    }

    private static void kinds(String board, String from, String to, int kind) {
        MateKeys x = CheckKit.board(board);
        CHECK.due(board + ": " + from + "-" + to,
            x.kind(CheckKit.square(from), CheckKit.square(to)), kind);
    }

    private static void kind() {
        kinds(ONE_KEY, "e1", "e5", 3);
        kinds(ONE_KEY, "e1", "a1", 2);
        kinds(ONE_KEY, "e1", "d1", 0);
        kinds(DULL, "b5", "b3", 1);
        kinds(DULL, "b5", "a5", 2);
        kinds(DULL, "b5", "c5", 0);
        // By moving off a line a man can let another one mate.
        kinds("k.B.R/...../.K.../...../.....", "c5", "d4", 3);
        kinds("k.B.R/...../.K.../...../.....", "c5", "b4", 3);
        // A stone is taken.
        kinds("k...#/...../.K.../...../....R", "e1", "e5", 3);
    }

    private static void guards() {
        // The queen beside the king: guarded it mates, alone it is taken.
        kinds("k..../...../.K.../...../.Q...", "b1", "b2", 0);
        kinds("k..../...Q./.K.../...../.....", "d4", "a4", 3);
        kinds("k..../...Q./...../...../.....", "d4", "a4", 2);
        // The black king can not move along the line of the rook that attacks it.
        kinds(".k.../#.#../#.#../...../....R", "e1", "b1", 2);
        kinds("#k#../#.#../#.#../...../....R", "e1", "b1", 3);
    }

    private static void kindErrors() {
        MateKeys x = CheckKit.board(NOT_FIT);
        CHECK.due("kind from -1", x.kind(-1, 0), MateKeys.NONE);
        CHECK.due("kind to 25", x.kind(24, 25), MateKeys.NONE);
        CHECK.due("no such move, not fit", x.kind(24, 18), MateKeys.NONE);
        CHECK.due("nothing there, not fit", x.kind(0, 1), MateKeys.NONE);
        CHECK.due("not fit", x.kind(24, 23), MateKeys.NOTHING);
        x = CheckKit.board(ONE_KEY);
        CHECK.due("no such move", x.kind(4, 8), MateKeys.NONE);
        CHECK.due("the black king's", x.kind(20, 21), MateKeys.NONE);
    }

    private static void refutation() {
        MateKeys x = CheckKit.board(ONE_KEY);
        CHECK.due("a try", x.refutation(4, 0), 21);
        CHECK.due("a key", x.refutation(4, 24), MateKeys.NONE);
        CHECK.due("another move", x.refutation(4, 3), MateKeys.NONE);
        CHECK.due("no such move", x.refutation(4, 8), MateKeys.NONE);
        CHECK.due("from -1", x.refutation(-1, 0), MateKeys.NONE);
        CHECK.due("to 25", x.refutation(4, 25), MateKeys.NONE);
        x = CheckKit.board(DULL);
        CHECK.due("the lowest of two", x.refutation(21, 20), 1);
        CHECK.due("by taking", x.refutation(21, 6), 6);
        CHECK.due("a dull move", x.refutation(21, 11), MateKeys.NONE);
        x = CheckKit.board(NOT_FIT);
        CHECK.due("not fit: from 25", x.refutation(25, 0), MateKeys.NONE);
        CHECK.due("not fit: to -1", x.refutation(0, -1), MateKeys.NONE);
        CHECK.due("not fit", x.refutation(24, 23), MateKeys.NOTHING);
        CHECK.due("not fit, no such move", x.refutation(24, 18), MateKeys.NOTHING);
        CHECK.due("not fit, nothing there", x.refutation(0, 0), MateKeys.NOTHING);
    }

    private static void oneKey(String board, int due) {
        MateKeys x = CheckKit.board(board);
        CHECK.due(board + ": key", x.key(0), due);
        CHECK.due(board + ": next key", x.key(1), MateKeys.NONE);
        CHECK.due(board + ": isWell", x.isWell(), 1);
    }

    private static void keysOfCorners() {
        oneKey("..k../...../..K../...../R....", 20);
        oneKey("R..../...../..K../...../..k..", 2000);
        oneKey("..k../...../..K../...../....R", 424);
        oneKey("....R/...../..K../...../..k..", 2404);
    }

    private static void counts(String board, int other, int dull, int tries, int keys) {
        MateKeys x = CheckKit.board(board);
        CHECK.due(board + ": other moves", x.many(0), other);
        CHECK.due(board + ": dull moves", x.many(1), dull);
        CHECK.due(board + ": tries", x.many(2), tries);
        CHECK.due(board + ": keys", x.many(3), keys);
        CHECK.due(board + ": moves", x.account(4), other + dull + tries + keys);
        CHECK.due(board + ": isWell", x.isWell(), 1);
    }

    private static void many() {
        counts(DULL, 6, 1, 5, 0);
        counts(ONE_KEY, 12, 0, 1, 1);
        counts("....k/...../...../...../.....", 0, 0, 0, 0);
        MateKeys x = CheckKit.board(NOT_FIT);
        CHECK.due("not fit", x.many(0), MateKeys.NOTHING);
        CHECK.due("not fit", x.many(3), MateKeys.NOTHING);
        CHECK.due("not fit, no such kind", x.many(4), MateKeys.BAD);
        CHECK.due("not fit, no such kind", x.many(-1), MateKeys.BAD);
        CHECK.due("the most", CheckKit.board(DUAL).many(Integer.MAX_VALUE), MateKeys.BAD);
    }

    private static void duals() {
        CHECK.due("no key", CheckKit.board(DULL).duals(), 0);
        CHECK.due("one key", CheckKit.board(ONE_KEY).duals(), 0);
        CHECK.due("two keys", CheckKit.board(DUAL).duals(), 1);
        CHECK.due("three keys", CheckKit.board("k..../...../.K.../...../..RRR").duals(), 2);
        CHECK.due("not fit", CheckKit.board(NOT_FIT).duals(), MateKeys.NOTHING);
        CHECK.due("empty", new MateKeys().duals(), MateKeys.NOTHING);
    }

    private static void would() {
        MateKeys x = CheckKit.board(ONE_KEY);
        String state = CheckKit.state(x);
        CHECK.due("a rook on d1", x.would(3, 3), 2);
        CHECK.due("nothing on e1", x.would(0, 4), 0);
        CHECK.due("nothing on an empty square", x.would(0, 0), 1);
        CHECK.due("a stone on e5", x.would(6, 24), 1);
        CHECK.due("a stone on d5", x.would(6, 23), 0);
        CHECK.due("the rook again", x.would(3, 4), 1);
        CHECK.due("a stone in its place", x.would(6, 4), 0);
        CHECK.due("a queen in its place attacks", x.would(2, 4), MateKeys.NOTHING);
        CHECK.due("state", CheckKit.state(x), state);
        // By taking off a stone a position can become fit no more, or again.
        x = CheckKit.board("k#..R/...../.K.../...../.....");
        CHECK.due("the stone off", x.would(0, 21), MateKeys.NOTHING);
        x = CheckKit.board("k...R/...../.K.../...../....R");
        CHECK.due("the attacker off", x.would(0, 24), 1);
        CHECK.due("a stone between", x.would(6, 21), 1);
        CHECK.due("still attacked", x.would(0, 4), MateKeys.NOTHING);
    }

    private static void wouldErrors() {
        MateKeys x = CheckKit.board(ONE_KEY);
        CHECK.due("no such square", x.would(2, 25), MateKeys.NONE);
        CHECK.due("no such square or kind", x.would(9, -1), MateKeys.NONE);
        CHECK.due("a king's square", x.would(0, 11), MateKeys.NONE);
        CHECK.due("a king's square, no such kind", x.would(7, 20), MateKeys.NONE);
        CHECK.due("a king on its own square", x.would(1, 11), MateKeys.NONE);
        CHECK.due("a black king", x.would(7, 0), MateKeys.BAD);
        CHECK.due("no such kind", x.would(-1, 0), MateKeys.BAD);
        CHECK.due("no such kind", x.would(8, 0), MateKeys.BAD);
        CHECK.due("a second king", x.would(1, 0), MateKeys.BAD);
        CHECK.due("a second king for a rook", x.would(1, 4), MateKeys.BAD);
        CHECK.due("a second king with one on a1",
            CheckKit.board("..k../...../...../...../K....").would(1, 1), MateKeys.BAD);
        MateKeys kingless = CheckKit.board("k..../...../...../...../....R");
        CHECK.due("a first king", kingless.would(1, 11), 1);
        CHECK.due("kings beside", kingless.would(1, 16), MateKeys.NOTHING);
        CHECK.due("without a black king", new MateKeys().would(2, 0), MateKeys.NOTHING);
    }

    private static void wouldOfThirteen() {
        MateKeys x = CheckKit.board("k..../...../#K#../####./###.R");
        CHECK.due("men and stones", x.account(0), 12);
        CHECK.due("a thirteenth", x.would(6, 13), 1);
        // The queen's own key is d3-d5, beside e1-e5.
        CHECK.due("a thirteenth queen", x.would(2, 13), 2);
        CHECK.due("a thirteenth that bars the key", x.would(6, 14), 0);
        CHECK.due("a thirteenth that attacks the king", x.would(2, 24), MateKeys.NOTHING);
        CHECK.due("a second king", x.would(1, 13), MateKeys.BAD);
        CHECK.due("a thirteenth on a king", x.would(2, 20), MateKeys.NONE);
        CHECK.due("a thirteenth of no kind", x.would(7, 13), MateKeys.BAD);
        CHECK.due("one for another", x.would(5, 0), 1);
        CHECK.due("one less", x.would(0, 0), 1);
        CHECK.due("nothing for nothing", x.would(0, 13), 1);
        CHECK.due("nothing refused", x.refusal(0), MateKeys.NOTHING);
        CHECK.due("as many as before", x.account(0), 12);
        CHECK.due("put is refused", x.put(2, 13), MateKeys.REFUSED);
        x = CheckKit.board("k..../...../#.#../#####/###.R");
        CHECK.due("kingless", x.account(0), 12);
        CHECK.due("a thirteenth king", x.would(1, 11), 0);
        CHECK.due("a thirteenth king beside", x.would(1, 16), MateKeys.NOTHING);
        x.lift(9);
        x.put(6, 13);
        CHECK.due("a thirteenth king, with its key", x.would(1, 11), 1);
        x = CheckKit.board("...../...../#.#../#####/###.R");
        x.put(6, 24);
        CHECK.due("kingless both", x.account(0), 12);
        CHECK.due("a thirteenth without a black king", x.would(2, 13), MateKeys.NOTHING);
    }

    private static void ranked() {
        MateKeys x = CheckKit.board("k..../...../.K.../#..../N..NR");
        // Moves: N a1 has b3 barred by the king: c2; K has six; N d1 has b2, c3, e3; R e1 has four.
        int[] due = {11, 4, 3, 0};
        for (int place = 0; place < due.length; place++) {
            CHECK.due("ranked " + place, x.ranked(place), due[place]);
        }
        CHECK.due("ranked 4", x.ranked(4), MateKeys.NONE);
        CHECK.due("ranked -1", x.ranked(-1), MateKeys.NONE);
        x = CheckKit.board("R...R/...../...../...../R...R");
        int[] corners = {0, 4, 20, 24};
        for (int place = 0; place < corners.length; place++) {
            CHECK.due("ranked alike " + place, x.ranked(place), corners[place]);
        }
        CHECK.due("ranked of none", CheckKit.board("k#.../...../...../...../.....").ranked(0), MateKeys.NONE);
    }
}
