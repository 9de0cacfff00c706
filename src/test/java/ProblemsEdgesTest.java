/** The edges of promises 15 to 21; each test names its promise and the sentence that it holds to. */
public final class ProblemsEdgesTest {
    private static final CheckKit CHECK = new CheckKit();
    private static final EdgeKit EDGES = new EdgeKit(CHECK);
    private static final String LETTERS = ".KQRBN#k";
    private static final String DULL = ".Q.../...../...../...../k....";

    public static void main(String[] args) {
        keyPlaces();
        keyNotFit();
        keyLowest();
        kindOfEach();
        kindOfWholeBoards();
        kindNoSquare();
        kindNoMove();
        kindNotFit();
        refutationLowest();
        refutationNoSquare();
        refutationNoTry();
        refutationNotFit();
        manyKinds();
        manyLeastAndMost();
        manyNotFit();
        dualsCounts();
        dualsNotFit();
        wouldNoSquare();
        wouldOnKing();
        wouldNoKind();
        wouldSecondKing();
        wouldNotFit();
        wouldOfEach();
        wouldOfTwelveAndThirteen();
        rankedPlaces();
        rankedOrder();
        rankedWhiteMenAlone();
        CHECK.finish();
    }

    // ---- promise 15

    private static void keyPlaces() {
        CHECK.about("Promise 15: NONE if there is no such place, from 0");
        MateKeys x = EdgeKit.oneKey();
        CHECK.due("key 0 of one", x.key(0), 424);
        for (int place : EdgeKit.outside(0, 0)) {
            CHECK.due("key " + place + " of one", x.key(place), MateKeys.NONE);
        }
        x = CheckKit.board("k..../...Q./.K.../...../....R");
        int[] due = {424, 1815, 1816, 1822, 1823, 1824};
        for (int place = 0; place < due.length; place++) {
            CHECK.due("key " + place + " of six", x.key(place), due[place]);
        }
        for (int place : EdgeKit.outside(0, 5)) {
            CHECK.due("key " + place + " of six", x.key(place), MateKeys.NONE);
        }
        CHECK.about("Promise 15: NONE for each place without a key");
        String[] keyless = {DULL, "..k../...../...../...../.....", "k..../...../...../..#../....R"};
        int[] places = {0, 1, -1, EdgeKit.LEAST, EdgeKit.MOST};
        for (String board : keyless) {
            for (int place : places) {
                CHECK.due(board + ": key " + place, CheckKit.board(board).key(place), MateKeys.NONE);
            }
        }
        EDGES.leavesAll("key -1", EdgeKit::busyWithText, y -> y.key(-1), MateKeys.NONE);
        EDGES.leavesAll("key 1", EdgeKit::oneKey, y -> y.key(1), MateKeys.NONE);
        EDGES.leavesAll("key 0", EdgeKit::full, y -> y.key(0), 424);
    }

    private static void keyNotFit() {
        CHECK.about("In doubt: of a position that is not fit NOTHING is told for any place of a key");
        MateKeys[] boards = {
            new MateKeys(), EdgeKit.notFit(), EdgeKit.kingless(),
            CheckKit.board("kK.../...../...../...../....R")
        };
        int[] places = {0, 1, -1, 24, 100, EdgeKit.LEAST, EdgeKit.MOST};
        for (MateKeys x : boards) {
            for (int place : places) {
                CHECK.due("key " + place, x.key(place), MateKeys.NOTHING);
            }
        }
        EDGES.leavesAll("key 0", EdgeKit::notFit, y -> y.key(0), MateKeys.NOTHING);
        EDGES.leavesAll("key -1", EdgeKit::kingless, y -> y.key(-1), MateKeys.NOTHING);
    }

    private static void keyLowest() {
        CHECK.about("Terms, problems: the key told is the lowest one");
        // To a1 and from e5: a mate on the first square, and one from the last.
        CHECK.due("to a1", CheckKit.board("R..../...../..K../...../..k..").key(0), 2000);
        CHECK.due("from a1", CheckKit.board("..k../...../..K../...../R....").key(0), 20);
        CHECK.due("from e5", CheckKit.board("....R/...../..K../...../..k..").key(0), 2404);
        CHECK.due("to e5", CheckKit.board("..k../...../..K../...../....R").key(0), 424);
        MateKeys x = CheckKit.board("..k../...../..K../...../R...R");
        CHECK.due("of two the lower", x.key(0), 20);
        CHECK.due("and then the higher", x.key(1), 424);
    }

    // ---- promise 16

    private static void kindIs(String board, String from, String to, int due) {
        int kind = CheckKit.board(board).kind(CheckKit.square(from), CheckKit.square(to));
        CHECK.due(board + ": kind of " + from + "-" + to, kind, due);
    }

    private static void kindOfEach() {
        CHECK.about("Promise 16 and Terms, problems: 3 if the black king is attacked and can move nowhere");
        kindIs("k..../...../.K.../...../....R", "e1", "e5", 3);
        kindIs("k#.../##.N./...../...../.....", "d4", "b3", 3);
        kindIs("k.B.R/...../.K.../...../.....", "c5", "d4", 3);
        CHECK.about("Promise 16 and Terms, problems: 2, a try, if it is attacked, but can move");
        kindIs("k..../...../.K.../...../....R", "e1", "a1", 2);
        kindIs("k..../...Q./...../...../.....", "d4", "a4", 2);
        CHECK.about("Promise 16 and Terms, problems: 1 if it is not attacked, and can move nowhere");
        kindIs(DULL, "b5", "b3", 1);
        kindIs("k#.../##.../...../...../....R", "e1", "e2", 1);
        CHECK.about("Promise 16: 0 otherwise");
        kindIs("k..../...../.K.../...../....R", "e1", "e2", 0);
        kindIs(DULL, "b5", "c5", 0);
    }

    /** Each pair of squares of a board: the moves by the model, the others NONE. */
    private static void kindsOf(String board) {
        MateKeys x = CheckKit.board(board);
        int[] counts = new int[4];
        for (int from = 0; from < 25; from++) {
            for (int to = 0; to < 25; to++) {
                // A new object for each square, since none is used for more than 512 calls.
                if (to == 0) {
                    x = CheckKit.board(board);
                }
                int due = ModelKit.kindOrNone(men(board), from, to);
                CHECK.due(board + ": kind " + from + " " + to, x.kind(from, to), due);
                if (due >= 0) {
                    counts[due]++;
                }
            }
        }
        x = CheckKit.board(board);
        for (int kind = 0; kind < 4; kind++) {
            CHECK.due(board + ": many " + kind, x.many(kind), counts[kind]);
        }
        CHECK.due(board + ": all moves", x.account(4), counts[0] + counts[1] + counts[2] + counts[3]);
    }

    private static String men(String line) {
        String[] rows = line.split("/");
        return rows[4] + rows[3] + rows[2] + rows[1] + rows[0];
    }

    private static void kindOfWholeBoards() {
        CHECK.about("Promise 16: of each pair of squares; NONE if there is no such move");
        String[] boards = {
            "k..../...../.K.../...../....R", DULL, "k#.../##.N./...../...../....Q",
            "k..../...../#K.../####./####R", "..k../...../..K../..#../Q...R",
            ".#k#./.#.#./...../N.K.B/R...Q", "#k#../#.#../#.#../...../....R",
            "....k/..#../.N.../B.K../...R.", "k.B.R/...../.K.../...../.....", "..k../...../...../...../.....",
            "k.K.R/...../...../#..../.....", "Q..../.#.../..k#./.N.../K...."
        };
        for (String board : boards) {
            kindsOf(board);
        }
    }

    private static void kindNoSquare() {
        CHECK.about("Promise 16: NONE if there is no such square, for either, ahead of NOTHING");
        MateKeys[] boards = {EdgeKit.oneKey(), EdgeKit.notFit(), new MateKeys()};
        for (MateKeys x : boards) {
            for (int square : EdgeKit.NO_SQUARES) {
                CHECK.due("from " + square, x.kind(square, 24), MateKeys.NONE);
                CHECK.due("to " + square, x.kind(4, square), MateKeys.NONE);
                CHECK.due("from and to " + square, x.kind(square, square), MateKeys.NONE);
            }
        }
        EDGES.leavesAll("kind from -1", EdgeKit::busyWithText, y -> y.kind(-1, 0), MateKeys.NONE);
        EDGES.leavesAll("kind to 25", EdgeKit::busyWithText, y -> y.kind(3, 25), MateKeys.NONE);
    }

    private static void kindNoMove() {
        CHECK.about("Promise 16: NONE if there is no such move, ahead of NOTHING");
        MateKeys[] boards = {EdgeKit.oneKey(), EdgeKit.notFit()};
        for (MateKeys x : boards) {
            CHECK.due("an empty square", x.kind(23, 22), MateKeys.NONE);
            CHECK.due("to its own square", x.kind(11, 11), MateKeys.NONE);
            CHECK.due("the black king", x.kind(20, 21), MateKeys.NONE);
            CHECK.due("the king beside the other", x.kind(11, 15), MateKeys.NONE);
        }
        CHECK.due("on to the black king", EdgeKit.notFit().kind(24, 20), MateKeys.NONE);
        CHECK.due("a stone", EdgeKit.notFit().kind(0, 1), MateKeys.NONE);
        CHECK.due("an empty board", new MateKeys().kind(0, 1), MateKeys.NONE);
        EDGES.leavesAll("no such move", EdgeKit::busyWithText, y -> y.kind(3, 9), MateKeys.NONE);
        EDGES.leavesAll("a key", EdgeKit::oneKey, y -> y.kind(4, 24), 3);
        EDGES.leavesAll("a stone is taken", EdgeKit::full, y -> y.kind(4, 3), 0);
    }

    private static void kindNotFit() {
        CHECK.about("Promise 16: NOTHING if the position is not fit");
        CHECK.due("attacked", EdgeKit.notFit().kind(24, 23), MateKeys.NOTHING);
        CHECK.due("no black king", EdgeKit.kingless().kind(0, 1), MateKeys.NOTHING);
        CHECK.due("beside", CheckKit.board("kK.../...../...../...../.....").kind(21, 17), MateKeys.NOTHING);
        EDGES.leavesAll("not fit", EdgeKit::notFit, y -> y.kind(24, 23), MateKeys.NOTHING);
    }

    // ---- promise 17

    private static void refutationIs(String board, String from, String to, String due) {
        int square = CheckKit.board(board).refutation(CheckKit.square(from), CheckKit.square(to));
        CHECK.due(board + ": refutation of " + from + "-" + to, square, CheckKit.square(due));
    }

    private static void refutationLowest() {
        CHECK.about("Promise 17 and Terms, problems: the lowest square to which it can");
        refutationIs("....R/...../...../...../.k...", "e5", "b5", "a1");
        refutationIs("..#k./...../...K./N..../.....", "a2", "c3", "e5");
        refutationIs("k..../...../.K.../...../....R", "e1", "a1", "b5");
        refutationIs(DULL, "b5", "a5", "b1");
        CHECK.about("Terms, answers: the refutation can take the man that moved");
        refutationIs(DULL, "b5", "b2", "b2");
        // By moving off the line the rook lets the bishop attack, and is not taken.
        refutationIs("....B/...R./...../...../k....", "d4", "d5", "b1");
    }

    private static void refutationNoSquare() {
        CHECK.about("Promise 17: NONE if there is no such square, for either, ahead of NOTHING");
        MateKeys[] boards = {EdgeKit.oneKey(), EdgeKit.notFit(), new MateKeys()};
        for (MateKeys x : boards) {
            for (int square : EdgeKit.NO_SQUARES) {
                CHECK.due("from " + square, x.refutation(square, 0), MateKeys.NONE);
                CHECK.due("to " + square, x.refutation(4, square), MateKeys.NONE);
                CHECK.due("from and to " + square, x.refutation(square, square), MateKeys.NONE);
            }
        }
        EDGES.leavesAll("from 25", EdgeKit::busyWithText, y -> y.refutation(25, 0), MateKeys.NONE);
        EDGES.leavesAll("to -1", EdgeKit::busyWithText, y -> y.refutation(3, -1), MateKeys.NONE);
    }

    private static void refutationNoTry() {
        CHECK.about("Promise 17: NONE if there is no such try");
        MateKeys x = EdgeKit.oneKey();
        CHECK.due("a key", x.refutation(4, 24), MateKeys.NONE);
        CHECK.due("another move", x.refutation(4, 3), MateKeys.NONE);
        CHECK.due("no such move", x.refutation(4, 8), MateKeys.NONE);
        CHECK.due("an empty square", x.refutation(0, 1), MateKeys.NONE);
        CHECK.due("the black king", x.refutation(20, 21), MateKeys.NONE);
        CHECK.due("to its own square", x.refutation(4, 4), MateKeys.NONE);
        CHECK.due("a dull move", CheckKit.board(DULL).refutation(21, 11), MateKeys.NONE);
        EDGES.leavesAll("a key", EdgeKit::oneKey, y -> y.refutation(4, 24), MateKeys.NONE);
        EDGES.leavesAll("a try", EdgeKit::oneKey, y -> y.refutation(4, 0), 21);
        EDGES.leavesAll("no such move", EdgeKit::full, y -> y.refutation(4, 2), MateKeys.NONE);
    }

    private static void refutationNotFit() {
        CHECK.about("Promise 17 and In doubt: whether there is a try is asked only if the position is fit");
        MateKeys x = EdgeKit.notFit();
        CHECK.due("a move", x.refutation(24, 23), MateKeys.NOTHING);
        CHECK.due("no such move", x.refutation(24, 18), MateKeys.NOTHING);
        CHECK.due("an empty square", x.refutation(1, 2), MateKeys.NOTHING);
        CHECK.due("no black king", EdgeKit.kingless().refutation(0, 1), MateKeys.NOTHING);
        CHECK.due("an empty board", new MateKeys().refutation(0, 24), MateKeys.NOTHING);
        EDGES.leavesAll("not fit", EdgeKit::notFit, y -> y.refutation(24, 23), MateKeys.NOTHING);
    }

    // ---- promise 18

    private static void manyKinds() {
        CHECK.about("Promise 18: BAD if there is no such kind, 0 to 3, ahead of NOTHING");
        MateKeys[] boards = {EdgeKit.oneKey(), EdgeKit.notFit(), new MateKeys(), EdgeKit.kingless()};
        for (MateKeys x : boards) {
            for (int kind : EdgeKit.outside(0, 3)) {
                CHECK.due("many " + kind, x.many(kind), MateKeys.BAD);
            }
        }
        EDGES.leavesAll("many -1", EdgeKit::busyWithText, x -> x.many(-1), MateKeys.BAD);
        EDGES.leavesAll("many 4", EdgeKit::busyWithText, x -> x.many(4), MateKeys.BAD);
        EDGES.leavesAll("many 3", EdgeKit::oneKey, x -> x.many(3), 1);
    }

    private static void manyAre(String board, int... due) {
        MateKeys x = CheckKit.board(board);
        for (int kind = 0; kind < 4; kind++) {
            CHECK.due(board + ": many " + kind, x.many(kind), due[kind]);
        }
    }

    private static void manyLeastAndMost() {
        CHECK.about("Promise 18: returns how many, 0 too, and all");
        manyAre("..k../...../...../...../.....", 0, 0, 0, 0);
        manyAre("k..../...../.K.../...../....R", 12, 0, 1, 1);
        manyAre(DULL, 6, 1, 5, 0);
        manyAre("k#.../##.../...../...../....R", 0, 8, 0, 0);
        manyAre("k#.../##.N./...../...../.....", 1, 2, 0, 1);
        CHECK.about("Promise 18: asked again it is the same");
        MateKeys x = EdgeKit.oneKey();
        for (int i = 0; i < 3; i++) {
            CHECK.due("many 0", x.many(0), 12);
            CHECK.due("many 3", x.many(3), 1);
        }
    }

    private static void manyNotFit() {
        CHECK.about("Promise 18: NOTHING if the position is not fit");
        MateKeys[] boards = {EdgeKit.notFit(), new MateKeys(), EdgeKit.kingless()};
        for (MateKeys x : boards) {
            for (int kind = 0; kind < 4; kind++) {
                CHECK.due("many " + kind, x.many(kind), MateKeys.NOTHING);
            }
        }
        EDGES.leavesAll("not fit", EdgeKit::notFit, x -> x.many(0), MateKeys.NOTHING);
    }

    // ---- promise 19

    private static void dualsCounts() {
        CHECK.about("Promise 19 and Terms, problems: as many as there are keys, less 1; 0 without a key");
        CHECK.due("no man", CheckKit.board("..k../...../...../...../.....").duals(), 0);
        CHECK.due("no key", CheckKit.board(DULL).duals(), 0);
        CHECK.due("one key", EdgeKit.oneKey().duals(), 0);
        CHECK.due("two keys", CheckKit.board("k..../...../.K.../...../...RR").duals(), 1);
        CHECK.due("six keys", CheckKit.board("k..../...Q./.K.../...../....R").duals(), 5);
        EDGES.leavesAll("duals", EdgeKit::oneKey, y -> y.duals(), 0);
    }

    private static void dualsNotFit() {
        CHECK.about("Promise 19: NOTHING if the position is not fit");
        CHECK.due("an empty board", new MateKeys().duals(), MateKeys.NOTHING);
        CHECK.due("no black king", EdgeKit.kingless().duals(), MateKeys.NOTHING);
        CHECK.due("attacked", EdgeKit.notFit().duals(), MateKeys.NOTHING);
        EDGES.leavesAll("not fit", EdgeKit::notFit, y -> y.duals(), MateKeys.NOTHING);
    }

    // ---- promise 20

    private static void wouldNoSquare() {
        CHECK.about("Promise 20: NONE if there is no such square, ahead of BAD and NOTHING");
        MateKeys[] boards = {EdgeKit.oneKey(), EdgeKit.notFit(), new MateKeys(), EdgeKit.full()};
        int[] kinds = {0, 1, 3, 6, 7, -1};
        for (MateKeys x : boards) {
            for (int i = 0; i < EdgeKit.NO_SQUARES.length; i++) {
                int kind = kinds[i % kinds.length];
                int square = EdgeKit.NO_SQUARES[i];
                CHECK.due("would " + kind + " " + square, x.would(kind, square), MateKeys.NONE);
                CHECK.due("would 2 " + square, x.would(2, square), MateKeys.NONE);
            }
        }
        EDGES.leavesAll("would 2 -1", EdgeKit::busyWithText, y -> y.would(2, -1), MateKeys.NONE);
        EDGES.leavesAll("would 2 25", EdgeKit::busyWithText, y -> y.would(2, 25), MateKeys.NONE);
    }

    private static void wouldOnKing() {
        CHECK.about("Promise 20: NONE if a king is there, ahead of BAD and NOTHING");
        for (int square = 0; square < 25; square++) {
            MateKeys x = new MateKeys();
            x.put(7, square);
            x.put(1, 24 - square == square ? 0 : 24 - square);
            for (int kind = -1; kind <= 7; kind++) {
                CHECK.due("on the black king, " + kind, x.would(kind, square), MateKeys.NONE);
                CHECK.due("on the white king, " + kind, x.would(kind, 24 - square == square ? 0 : 24 - square),
                    MateKeys.NONE);
            }
        }
        CHECK.due("where not fit", EdgeKit.notFit().would(0, 20), MateKeys.NONE);
        EDGES.leavesAll("on the white king", EdgeKit::busyWithText, y -> y.would(1, 17), MateKeys.NONE);
        EDGES.leavesAll("on the black king", EdgeKit::oneKey, y -> y.would(0, 20), MateKeys.NONE);
    }

    private static void wouldNoKind() {
        CHECK.about("Promise 20: BAD if the kind is out of range, 0 to 6, ahead of NOTHING");
        MateKeys[] boards = {EdgeKit.oneKey(), EdgeKit.notFit(), new MateKeys(), EdgeKit.kingless()};
        int[] squares = {0, 1, 12, 24};
        for (MateKeys x : boards) {
            for (int kind : EdgeKit.outside(0, 6)) {
                for (int square : squares) {
                    CHECK.due("would " + kind + " " + square, x.would(kind, square), MateKeys.BAD);
                }
            }
        }
        EDGES.leavesAll("would -1", EdgeKit::busyWithText, y -> y.would(-1, 1), MateKeys.BAD);
        EDGES.leavesAll("would 7", EdgeKit::busyWithText, y -> y.would(7, 1), MateKeys.BAD);
    }

    private static void wouldSecondKing() {
        CHECK.about("Promise 20: BAD if it is a second white king, ahead of NOTHING");
        MateKeys[] boards = {
            EdgeKit.oneKey(), EdgeKit.notFit(), EdgeKit.kingless(),
            CheckKit.board("..k../...../...../...../K...."), CheckKit.board("K.k../...../...../...../.....")
        };
        for (MateKeys x : boards) {
            CHECK.due("on an empty square", x.would(1, 12), MateKeys.BAD);
            CHECK.due("on another one", x.would(1, 3), MateKeys.BAD);
        }
        CHECK.due("for a rook", EdgeKit.oneKey().would(1, 4), MateKeys.BAD);
        CHECK.due("of thirteen", EdgeKit.full().would(1, 24), MateKeys.BAD);
        MateKeys x = CheckKit.board("k..../...../...../...../....R");
        CHECK.due("a first one", x.would(1, 11), 1);
        CHECK.due("a first one for the rook", x.would(1, 4), 0);
        EDGES.leavesAll("a second one", EdgeKit::busyWithText, y -> y.would(1, 1), MateKeys.BAD);
        EDGES.leavesAll("a first one", () -> CheckKit.board("k..../...../...../...../....R"),
            y -> y.would(1, 11), 1);
    }

    private static void wouldNotFit() {
        CHECK.about("Promise 20: NOTHING if the position would not be fit");
        MateKeys x = EdgeKit.oneKey();
        CHECK.due("a queen that attacks", x.would(2, 24), MateKeys.NOTHING);
        CHECK.due("a knight that attacks", x.would(5, 17), MateKeys.NOTHING);
        CHECK.due("an empty board", new MateKeys().would(0, 0), MateKeys.NOTHING);
        CHECK.due("no black king", EdgeKit.kingless().would(6, 12), MateKeys.NOTHING);
        x = CheckKit.board("k..../...../...../...../....R");
        CHECK.due("a king beside", x.would(1, 16), MateKeys.NOTHING);
        x = CheckKit.board("k#..R/...../.K.../...../.....");
        CHECK.due("the stone off", x.would(0, 21), MateKeys.NOTHING);
        CHECK.about("Promise 20: a number if the position would be fit, though it is not");
        x = EdgeKit.notFit();
        CHECK.due("not fit", x.isFit(), 0);
        CHECK.due("the rook off", x.would(0, 24), 0);
        CHECK.due("a stone between, which the rook can take", x.would(6, 23), 1);
        CHECK.due("a knight between, which can move off", x.would(5, 21), 3);
        CHECK.due("still attacked", x.would(0, 0), MateKeys.NOTHING);
        EDGES.leavesAll("a queen that attacks", EdgeKit::oneKey, y -> y.would(2, 24), MateKeys.NOTHING);
        EDGES.leavesAll("the rook off", EdgeKit::notFit, y -> y.would(0, 24), 0);
    }

    private static void wouldOfEach() {
        CHECK.about("Promise 20: how many keys there would be, for each kind, 0 to 6, on each square");
        String[] boards = {
            "k..../...../.K.../...../....R", "k..../...../...../..#../..N.R", "..k../...../..K../..#../Q...R"
        };
        for (String board : boards) {
            for (int square = 0; square < 25; square++) {
                MateKeys x = CheckKit.board(board);
                for (int kind = 0; kind <= 6; kind++) {
                    CHECK.due(board + ": would " + kind + " " + square, x.would(kind, square),
                        wouldBe(men(board), kind, square));
                }
            }
        }
        CHECK.about("In doubt: what would be put on a square takes the place of what is there");
        MateKeys x = EdgeKit.oneKey();
        CHECK.due("a stone for the rook", x.would(6, 4), 0);
        CHECK.due("the same again", x.would(3, 4), 1);
        CHECK.due("nothing for the rook", x.would(0, 4), 0);
        CHECK.due("nothing for nothing", x.would(0, 0), 1);
        CHECK.due("the rook is there", x.at(4), 3);
    }

    private static int wouldBe(String men, int kind, int square) {
        if ("Kk".indexOf(men.charAt(square)) >= 0) {
            return MateKeys.NONE;
        }
        if (kind == 1 && men.indexOf('K') >= 0) {
            return MateKeys.BAD;
        }
        String other = ModelKit.with(men, square, LETTERS.charAt(kind));
        if (!ModelKit.fit(other)) {
            return MateKeys.NOTHING;
        }
        int keys = 0;
        for (int move : ModelKit.moves(other)) {
            keys += ModelKit.kindOrNone(other, move / 100, move % 100) == 3 ? 1 : 0;
        }
        return keys;
    }

    private static void wouldOfTwelveAndThirteen() {
        CHECK.about("Promise 20: of 13 men and stones, too");
        MateKeys x = EdgeKit.full();
        for (int kind = 0; kind <= 6; kind++) {
            for (int square = 0; square < 25; square++) {
                CHECK.due("full: would " + kind + " " + square, x.would(kind, square),
                    wouldBe(men("k..../...../#K.../####./####R"), kind, square));
            }
        }
        CHECK.due("a thirteenth stone", x.would(6, 12), 1);
        CHECK.due("a thirteenth stone that bars", x.would(6, 14), 0);
        CHECK.due("men and stones", x.account(0), 12);
        CHECK.due("nothing refused", x.refusal(0), MateKeys.NOTHING);
        CHECK.due("of twelve", removed(x, 0).would(6, 0), 1);
        EDGES.leavesAll("a thirteenth", EdgeKit::full, y -> y.would(3, 9), 1);
    }

    private static MateKeys removed(MateKeys x, int square) {
        x.lift(square);
        return x;
    }

    // ---- promise 21

    private static void rankedPlaces() {
        CHECK.about("Promise 21: NONE if there is no such place, from 0");
        String[] boards = {
            "k..../...../.K.../...../....R", "QQQQQ/QQQQQ/QQ.../...../.....", "...../...../...../...../....B"
        };
        int[] counts = {2, 12, 1};
        for (int i = 0; i < 3; i++) {
            MateKeys x = CheckKit.board(boards[i]);
            for (int place = 0; place < counts[i]; place++) {
                CHECK.due(boards[i] + ": ranked " + place, x.ranked(place) >= 0 ? 1 : 0, 1);
            }
            for (int place : EdgeKit.outside(0, counts[i] - 1)) {
                CHECK.due(boards[i] + ": ranked " + place, x.ranked(place), MateKeys.NONE);
            }
        }
        int[] places = {0, 1, -1, EdgeKit.LEAST, EdgeKit.MOST};
        for (int place : places) {
            CHECK.due("an empty board: ranked " + place, new MateKeys().ranked(place), MateKeys.NONE);
        }
        EDGES.leavesAll("ranked -1", EdgeKit::busyWithText, x -> x.ranked(-1), MateKeys.NONE);
        EDGES.leavesAll("ranked 12", EdgeKit::full, x -> x.ranked(12), MateKeys.NONE);
        EDGES.leavesAll("ranked 0", EdgeKit::full, x -> x.ranked(0), 11);
    }

    private static void rankedAre(String board, int... due) {
        MateKeys x = CheckKit.board(board);
        for (int place = 0; place < due.length; place++) {
            CHECK.due(board + ": ranked " + place, x.ranked(place), due[place]);
        }
        CHECK.due(board + ": ranked " + due.length, x.ranked(due.length), MateKeys.NONE);
    }

    private static void rankedOrder() {
        CHECK.about("Promise 21: by how many moves it has, the most first");
        rankedAre("....Q/...../..R../...../B....", 24, 12, 0);
        rankedAre("Q..../...../..R../...../....N", 20, 12, 4);
        CHECK.about("Promise 21: of several the lowest");
        rankedAre("R...R/...../...../...../R...R", 0, 4, 20, 24);
        rankedAre("N...N/...../..N../...../N...N", 12, 0, 4, 20, 24);
        CHECK.about("Promise 21: a man without a move is the last");
        rankedAre("...../...../...../NN.../RN...", 6, 1, 5, 0);
        rankedAre("...../...../...../NN.../QN...", 6, 1, 5, 0);
        rankedAre("...../...../.k.../...../KR...", 1, 0);
        rankedAre(".N.../..N../...../.N.../K....", 17, 6, 21, 0);
    }

    private static void rankedWhiteMenAlone() {
        CHECK.about("Promise 21: the square of a white man, the king too; neither stones nor the black king");
        rankedAre("#k#../...../...../...../....#");
        rankedAre("#k#../...../..K../...../....#", 12);
        CHECK.about("Promise 21: in a position that is not fit, too");
        rankedAre("k...R/...../...../...../.....", 24);
    }
}
