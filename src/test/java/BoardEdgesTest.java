/** The edges of promises 1 to 8; each test names its promise and the sentence that it holds to. */
public final class BoardEdgesTest {
    private static final CheckKit CHECK = new CheckKit();
    private static final EdgeKit EDGES = new EdgeKit(CHECK);
    private static final String LETTERS = ".KQRBN#k";
    private static final String EMPTY = ".".repeat(25);

    public static void main(String[] args) {
        newObjectIsEmpty();
        newObjectIsApart();
        lastOfManyCalls();
        namesOfSquares();
        putEachKindOnEachSquare();
        putNoSquare();
        putNoKind();
        putCounts();
        putNotEmpty();
        putSecondKing();
        putKingAgain();
        putThirteenth();
        putReasonsInOrder();
        liftEach();
        liftNoSquare();
        liftNothing();
        playEachMan();
        playOnToEach();
        playKingBesideKing();
        playNoSquare();
        playFromNothing();
        playNoMove();
        playAnswersNothing();
        playWhereNotFit();
        playCounts();
        turnEachSquare();
        turnCounts();
        mirrorEachSquare();
        mirrorCounts();
        thriftLeastAndMost();
        thriftHighestFirst();
        thriftTimeAndAgain();
        thriftNotFit();
        thriftNothingToSpare();
        atEach();
        CHECK.finish();
    }

    /** The 25 signs from a1 on. */
    private static String men(MateKeys x) {
        StringBuilder men = new StringBuilder();
        for (int square = 0; square < 25; square++) {
            men.append(LETTERS.charAt(x.at(square)));
        }
        return men.toString();
    }

    // ---- promise 1

    private static void newObjectIsEmpty() {
        CHECK.about("Promise 1: creates an empty board");
        MateKeys x = new MateKeys();
        CHECK.due("the board", men(x), EMPTY);
        for (int square = 0; square < 25; square++) {
            CHECK.due("attackers " + square, x.attackers(square), 0);
            CHECK.due("attackersAgain " + square, x.attackersAgain(square), 0);
            CHECK.due("manOf " + square, x.manOf(square, 0), MateKeys.NOTHING);
        }
        for (int what = 0; what < 12; what++) {
            CHECK.due("account " + what, x.account(what), what == 3 ? MateKeys.NOTHING : 0);
        }
        for (int what = 0; what < 3; what++) {
            CHECK.due("refusal " + what, x.refusal(what), MateKeys.NOTHING);
        }
        CHECK.due("move", x.move(0), MateKeys.NONE);
        CHECK.due("ranked", x.ranked(0), MateKeys.NONE);
        CHECK.due("escapes", x.escapes(), MateKeys.NOTHING);
        CHECK.due("isFit", x.isFit(), 0);
        CHECK.due("sign", x.sign(0), MateKeys.NONE);
        CHECK.due("read of the empty text", x.read(), -100);
        CHECK.due("undo", x.undo(), MateKeys.NOTHING);
        CHECK.due("restore", x.restore(), MateKeys.NOTHING);
        CHECK.due("save", x.save(), 0);
    }

    private static void newObjectIsApart() {
        CHECK.about("Promise 1: creates an empty board, whatever other objects hold");
        EDGES.leavesAll("another object", MateKeys::new, x -> EdgeKit.busyWithText().at(0), 6);
        CHECK.about("Promise 1: a later object leaves an earlier one as it is");
        EDGES.leavesAll("another object", EdgeKit::busyWithText, x -> new MateKeys().put(2, 7), 1);
    }

    private static void lastOfManyCalls() {
        CHECK.about("What it is: an object is used for at most 512 calls");
        MateKeys x = new MateKeys();
        x.put(6, 0);
        for (int call = 2; call <= 511; call++) {
            CHECK.due("call " + call, x.turn(), 1);
        }
        CHECK.due("turned, by the 512th call", x.account(9), 510);
        x = new MateKeys();
        for (int call = 1; call <= 504; call++) {
            x.mirror();
        }
        for (int left = 7; left >= 0; left--) {
            CHECK.due("undo, up to the 512th call", x.undo(), left);
        }
    }

    private static void namesOfSquares() {
        CHECK.about("Terms, the board: a1 is 0, e1 is 4, a2 is 5, and e5 is 24");
        String[] names = {"a1", "e1", "a2", "e2", "a5", "e5"};
        int[] squares = {0, 4, 5, 9, 20, 24};
        for (int i = 0; i < names.length; i++) {
            MateKeys x = new MateKeys();
            CHECK.due("read", CheckKit.read(x, "N" + names[i]), 1);
            CHECK.due("at " + names[i], x.at(squares[i]), 5);
        }
    }

    // ---- promise 2

    private static void putEachKindOnEachSquare() {
        CHECK.about("Promise 2: kind 1 to 7, square 0 to 24; returns how many there are then");
        for (int kind = 1; kind <= 7; kind++) {
            for (int square = 0; square < 25; square++) {
                MateKeys x = new MateKeys();
                CHECK.due("put " + kind + " on " + square, x.put(kind, square), 1);
                String due = EMPTY.substring(0, square) + LETTERS.charAt(kind) + EMPTY.substring(square + 1);
                CHECK.due("the board", men(x), due);
            }
        }
    }

    private static void putNoSquare() {
        CHECK.about("Promise 2: NONE if there is no such square, ahead of BAD and REFUSED");
        int[] kinds = {0, 1, 2, 6, 7, 8, -1, EdgeKit.LEAST, EdgeKit.MOST};
        MateKeys full = EdgeKit.full();
        for (int square : EdgeKit.NO_SQUARES) {
            for (int kind : kinds) {
                CHECK.due("put " + kind + " on " + square, new MateKeys().put(kind, square), MateKeys.NONE);
            }
            CHECK.due("on a full board, put 1 on " + square, full.put(1, square), MateKeys.NONE);
        }
        CHECK.due("no refusal", full.refusal(0), MateKeys.NOTHING);
        EDGES.leavesAll("put 2 on -1", EdgeKit::busy, x -> x.put(2, -1), MateKeys.NONE);
        EDGES.leavesAll("put 2 on 25", EdgeKit::busy, x -> x.put(2, 25), MateKeys.NONE);
    }

    private static void putNoKind() {
        CHECK.about("Promise 2: BAD if the kind is out of range, ahead of REFUSED");
        MateKeys full = EdgeKit.full();
        for (int kind : EdgeKit.outside(1, 7)) {
            for (int square : EdgeKit.SOME_SQUARES) {
                CHECK.due("put " + kind + " on " + square, new MateKeys().put(kind, square), MateKeys.BAD);
                CHECK.due("on a full board, put " + kind + " on " + square, full.put(kind, square),
                    MateKeys.BAD);
            }
        }
        CHECK.due("no refusal", full.refusal(0), MateKeys.NOTHING);
        EDGES.leavesAll("put 0 on 2", EdgeKit::busy, x -> x.put(0, 2), MateKeys.BAD);
        EDGES.leavesAll("put 8 on 20", EdgeKit::busy, x -> x.put(8, 20), MateKeys.BAD);
    }

    private static void putCounts() {
        CHECK.about("Terms, the board: there are at most 12 men and stones");
        for (int kind = 2; kind <= 6; kind++) {
            MateKeys x = new MateKeys();
            for (int count = 1; count <= 12; count++) {
                CHECK.due("put " + kind, x.put(kind, count * 2), count);
                CHECK.due("men and stones", x.account(0), count);
            }
            CHECK.refused(x, "a thirteenth of " + kind, x.put(kind, 1), 3, 12);
        }
    }

    private static void putNotEmpty() {
        CHECK.about("Promise 2: REFUSED for the reason 1, the square is not empty: what is on it");
        for (int there = 1; there <= 7; there++) {
            for (int kind = 1; kind <= 7; kind++) {
                for (int square = 0; square <= 24; square += 24) {
                    MateKeys x = new MateKeys();
                    x.put(there, square);
                    CHECK.refused(x, "put " + kind + " on " + there, x.put(kind, square), 1, there);
                    CHECK.due("what is there", x.at(square), there);
                }
            }
        }
        EDGES.refuses("put a queen on a stone", EdgeKit::busyWithText, x -> x.put(2, 0), 1, 6);
        EDGES.refuses("put a stone on the black king", EdgeKit::notFit, x -> x.put(6, 20), 1, 7);
    }

    private static void putSecondKing() {
        CHECK.about("Promise 2: REFUSED for the reason 2, there is such a king already: its square");
        for (int king = 1; king <= 7; king += 6) {
            for (int square = 0; square < 25; square++) {
                MateKeys x = new MateKeys();
                x.put(king, square);
                CHECK.refused(x, "king " + king, x.put(king, square == 24 ? 0 : 24), 2, square);
                CHECK.due("men", x.account(0), 1);
                CHECK.due("the other king", x.put(8 - king, square == 24 ? 0 : 24), 2);
            }
        }
        EDGES.refuses("a second white king", EdgeKit::busyWithText, x -> x.put(1, 5), 2, 17);
        EDGES.refuses("a second black king", EdgeKit::notFit, x -> x.put(7, 4), 2, 20);
    }

    private static void putKingAgain() {
        CHECK.about("Terms, the board: of each king there is one at most");
        MateKeys x = EdgeKit.oneKey();
        CHECK.due("the white king off", x.lift(11), 1);
        CHECK.due("the white king again", x.put(1, 0), 3);
        CHECK.due("the black king off", x.lift(20), 7);
        CHECK.due("the black king again", x.put(7, 24), 3);
        x.undo();
        CHECK.due("the black king behind undo", x.put(7, 22), 3);
        x.turn();
        CHECK.refused(x, "the black king behind a turn", x.put(7, 22), 2, 14);
        x.play(20, 15);
        CHECK.refused(x, "the white king behind its move", x.put(1, 20), 2, 15);
    }

    private static void putThirteenth() {
        CHECK.about("Promise 2: REFUSED for the reason 3, there are 12 men and stones: 12");
        for (int kind = 2; kind <= 6; kind++) {
            MateKeys x = EdgeKit.full();
            CHECK.due("men and stones", x.account(0), 12);
            CHECK.refused(x, "a thirteenth: " + kind, x.put(kind, 24), 3, 12);
        }
        for (int king = 1; king <= 7; king += 6) {
            MateKeys x = new MateKeys();
            for (int square = 0; square < 12; square++) {
                x.put(6, square);
            }
            CHECK.refused(x, "a thirteenth: king " + king, x.put(king, 24), 3, 12);
            CHECK.due("a stone off", x.lift(11), 6);
            CHECK.due("a king as the twelfth", x.put(king, 24), 12);
            CHECK.refused(x, "again a thirteenth", x.put(6, 11), 3, 12);
        }
        EDGES.refuses("a thirteenth", EdgeKit::full, x -> x.put(2, 12), 3, 12);
    }

    private static void putReasonsInOrder() {
        CHECK.about("Promise 2: REFUSED for the first of the reasons 1, 2 and 3");
        MateKeys x = EdgeKit.full();
        CHECK.refused(x, "1, 2 and 3: a king on its own square", x.put(1, 11), 1, 1);
        CHECK.refused(x, "1, 2 and 3: a king on a stone", x.put(7, 0), 1, 6);
        CHECK.refused(x, "1 and 3", x.put(2, 4), 1, 3);
        CHECK.refused(x, "2 and 3, white", x.put(1, 24), 2, 11);
        CHECK.refused(x, "2 and 3, black", x.put(7, 24), 2, 20);
        CHECK.refused(x, "3", x.put(6, 24), 3, 12);
        x.lift(0);
        CHECK.refused(x, "1 and 2", x.put(1, 20), 1, 7);
    }

    // ---- promise 3

    private static void liftEach() {
        CHECK.about("Promise 3: returns what it was, from the square 0 to the square 24");
        for (int kind = 1; kind <= 7; kind++) {
            for (int square = 0; square < 25; square++) {
                MateKeys x = new MateKeys();
                x.put(kind, square);
                CHECK.due("lift from " + square, x.lift(square), kind);
                CHECK.due("the board", men(x), EMPTY);
                CHECK.refused(x, "lift again", x.lift(square), 4, square);
            }
        }
        MateKeys x = EdgeKit.full();
        CHECK.due("lift from a full board", x.lift(4), 3);
        CHECK.due("men and stones", x.account(0), 11);
    }

    private static void liftNoSquare() {
        CHECK.about("Promise 3: NONE if there is no such square");
        MateKeys full = EdgeKit.full();
        for (int square : EdgeKit.NO_SQUARES) {
            CHECK.due("lift " + square, new MateKeys().lift(square), MateKeys.NONE);
            CHECK.due("on a full board, lift " + square, full.lift(square), MateKeys.NONE);
        }
        CHECK.due("men and stones", full.account(0), 12);
        CHECK.due("no refusal", full.refusal(0), MateKeys.NOTHING);
        EDGES.leavesAll("lift -1", EdgeKit::busyWithText, x -> x.lift(-1), MateKeys.NONE);
        EDGES.leavesAll("lift 25", EdgeKit::busyWithText, x -> x.lift(25), MateKeys.NONE);
    }

    private static void liftNothing() {
        CHECK.about("Promise 3: REFUSED for the reason 4, the square is empty: the square");
        MateKeys x = new MateKeys();
        for (int square = 0; square < 25; square++) {
            CHECK.refused(x, "lift " + square, x.lift(square), 4, square);
        }
        EDGES.refuses("lift from e5", EdgeKit::oneKey, y -> y.lift(24), 4, 24);
        EDGES.refuses("lift from a1", EdgeKit::oneKey, y -> y.lift(0), 4, 0);
        EDGES.refuses("lift from d5", EdgeKit::busyWithText, y -> y.lift(23), 4, 23);
    }

    // ---- promise 4

    private static void playEachMan() {
        CHECK.about("Promise 4: plays a move to each square that the man attacks, and to no other");
        for (int man = 1; man <= 7; man++) {
            for (int from = 0; from < 25; from++) {
                String men = ModelKit.with(EMPTY, from, LETTERS.charAt(man));
                for (int to = 0; to < 25; to++) {
                    MateKeys x = new MateKeys();
                    x.put(man, from);
                    String call = LETTERS.charAt(man) + ": play " + from + " " + to;
                    if (man < 6 && ModelKit.attacks(men, from, to)) {
                        CHECK.due(call, x.play(from, to), 0);
                        CHECK.due("the board", men(x), ModelKit.with(EMPTY, to, LETTERS.charAt(man)));
                    } else {
                        CHECK.refused(x, call, x.play(from, to), 5, man);
                        CHECK.due("the board", men(x), men);
                    }
                }
            }
        }
    }

    private static void playOnToEach() {
        CHECK.about("Promise 4: returns what was on that square, a stone; no white man, no black king");
        int[] targets = {13, 18, 23, 24};
        for (int man = 1; man <= 5; man++) {
            for (int there = 1; there <= 7; there++) {
                for (int to : targets) {
                    MateKeys x = new MateKeys();
                    x.put(man, 12);
                    if (man == there && man == 1 || x.put(there, to) != 2) {
                        continue;
                    }
                    String call = man + " on c3 to " + to + " on to " + there;
                    if (there == 6 && ModelKit.attacks(men(x), 12, to)) {
                        CHECK.due(call, x.play(12, to), 6);
                        CHECK.due("men and stones", x.account(0), 1);
                        CHECK.due("what is there", x.at(to), man);
                    } else {
                        CHECK.refused(x, call, x.play(12, to), 5, man);
                        CHECK.due("men and stones", x.account(0), 2);
                    }
                }
            }
        }
        MateKeys x = CheckKit.board("N..../...../.#.../...../.....");
        CHECK.due("a stone is taken by a knight", x.play(20, 11), 6);
    }

    private static void playKingBesideKing() {
        CHECK.about("Promise 4: the white king must not move beside the black king");
        for (int black = 0; black < 25; black++) {
            for (int from = 0; from < 25; from++) {
                for (int to = 0; to < 25 && from != black; to++) {
                    MateKeys x = new MateKeys();
                    x.put(7, black);
                    x.put(1, from);
                    boolean can = beside(from, to) && to != black && !beside(to, black);
                    CHECK.due("k on " + black + ", K " + from + " to " + to, x.play(from, to),
                        can ? 0 : MateKeys.REFUSED);
                }
            }
        }
    }

    private static boolean beside(int one, int other) {
        int columns = Math.abs(one % 5 - other % 5);
        int rows = Math.abs(one / 5 - other / 5);
        return Math.max(columns, rows) == 1;
    }

    private static void playNoSquare() {
        CHECK.about("Promise 4: NONE if there is no such square, for either, ahead of REFUSED");
        MateKeys x = EdgeKit.oneKey();
        for (int square : EdgeKit.NO_SQUARES) {
            CHECK.due("from " + square, x.play(square, 24), MateKeys.NONE);
            CHECK.due("to " + square, x.play(4, square), MateKeys.NONE);
            CHECK.due("from an empty square to " + square, x.play(0, square), MateKeys.NONE);
            CHECK.due("from the black king's to " + square, x.play(20, square), MateKeys.NONE);
            CHECK.due("from and to " + square, x.play(square, square), MateKeys.NONE);
        }
        CHECK.due("no refusal", x.refusal(0), MateKeys.NOTHING);
        CHECK.due("played", x.account(6), 0);
        EDGES.leavesAll("play to 25", EdgeKit::busyWithText, y -> y.play(3, 25), MateKeys.NONE);
        EDGES.leavesAll("play from -1", EdgeKit::busyWithText, y -> y.play(-1, 0), MateKeys.NONE);
    }

    private static void playFromNothing() {
        CHECK.about("Promise 4: REFUSED for the reason 4, with the first square");
        for (int from = 0; from < 25; from++) {
            MateKeys x = new MateKeys();
            CHECK.refused(x, "play " + from + " to itself", x.play(from, from), 4, from);
            x.put(6, 24 - from == from ? 0 : 24 - from);
            CHECK.refused(x, "play " + from, x.play(from, 24 - from), 4, from);
        }
        EDGES.refuses("play from e1", EdgeKit::busyWithText, x -> x.play(4, 3), 4, 4);
        EDGES.refuses("play where not fit", EdgeKit::notFit, x -> x.play(1, 24), 4, 1);
    }

    private static void playNoMove() {
        CHECK.about("Promise 4: REFUSED for the reason 5, what is on the square from which it would be");
        MateKeys x = CheckKit.board("k...Q/B#.N./...../#.R../..K..");
        int[] froms = {2, 24, 7, 15, 18, 5, 20};
        for (int i = 0; i < 7; i++) {
            CHECK.refused(x, "a move to its own square", x.play(froms[i], froms[i]), 5, i + 1);
        }
        CHECK.refused(x, "the queen on to the black king", x.play(24, 20), 5, 2);
        CHECK.refused(x, "the rook on to the white king", x.play(7, 2), 5, 3);
        CHECK.refused(x, "a stone beside it", x.play(5, 0), 5, 6);
        CHECK.refused(x, "the black king beside it", x.play(20, 21), 5, 7);
        EDGES.refuses("the rook on a slanting line", EdgeKit::oneKey, y -> y.play(4, 8), 5, 3);
        EDGES.refuses("a stone", EdgeKit::busyWithText, y -> y.play(0, 1), 5, 6);
        EDGES.refuses("the king beside the other", EdgeKit::oneKey, y -> y.play(11, 16), 5, 1);
    }

    private static void playAnswersNothing() {
        CHECK.about("In doubt: to play a move answers nothing");
        MateKeys x = EdgeKit.oneKey();
        CHECK.due("a try", x.play(4, 0), 0);
        CHECK.due("the board", CheckKit.show(x), "k..../...../.K.../...../R....");
        CHECK.due("and the next move", x.play(0, 5), 0);
        CHECK.due("the board", CheckKit.show(x), "k..../...../.K.../R..../.....");
    }

    private static void playWhereNotFit() {
        CHECK.about("In doubt: a move can be played in a position that is not fit");
        MateKeys x = EdgeKit.notFit();
        CHECK.due("an attacked black king", x.play(24, 23), 0);
        x = EdgeKit.kingless();
        CHECK.due("no black king", x.play(0, 20), 0);
        x = CheckKit.board("kK.../...../...../...../.....");
        CHECK.due("kings beside each other", x.play(21, 17), 0);
    }

    private static void playCounts() {
        CHECK.about("Promise 4: a move is played, a stone is taken; none where it is refused");
        MateKeys x = CheckKit.board("...../...../...../...../R#..#");
        x.play(0, 1);
        x.play(1, 4);
        x.play(4, 3);
        x.play(3, 14);
        x.play(0, 1);
        CHECK.due("moves played", x.account(6), 3);
        CHECK.due("stones taken", x.account(7), 2);
        CHECK.due("changes", x.account(11), 6);
    }

    // ---- promises 5 and 6

    private static void turnEachSquare() {
        CHECK.about("Promise 5 and In doubt: the column a becomes the row 5, a1 a5, and a5 e5");
        int[] corners = {0, 20, 24, 4};
        for (int kind = 1; kind <= 7; kind++) {
            for (int i = 0; i < 4; i++) {
                MateKeys x = new MateKeys();
                x.put(kind, corners[i]);
                CHECK.due("turn", x.turn(), 1);
                CHECK.due("the corner behind " + corners[i], x.at(corners[(i + 1) % 4]), kind);
                CHECK.due("this corner", x.at(corners[i]), 0);
            }
        }
        MateKeys x = CheckKit.board("N..../B..../K..../R..../Q....");
        x.turn();
        CHECK.due("the column a", CheckKit.show(x), "QRKBN/...../...../...../.....");
        x.turn();
        CHECK.due("the row 5", CheckKit.show(x), "....Q/....R/....K/....B/....N");
        x.turn();
        CHECK.due("the column e", CheckKit.show(x), "...../...../...../...../NBKRQ");
        x.turn();
        CHECK.due("four quarters", CheckKit.show(x), "N..../B..../K..../R..../Q....");
        x = CheckKit.board("...../...../..k../...../.....");
        x.turn();
        CHECK.due("c3 stays", x.at(12), 7);
    }

    private static void turnCounts() {
        CHECK.about("Promise 5: returns how many men and stones there are, 0 to 12");
        MateKeys x = new MateKeys();
        CHECK.due("an empty board", x.turn(), 0);
        CHECK.due("turned", x.account(9), 1);
        CHECK.due("a change of an empty board", x.account(11), 1);
        x = EdgeKit.full();
        CHECK.due("a full board", x.turn(), 12);
        CHECK.due("the full board", CheckKit.show(x), "###.k/##K../##.../##.../R....");
        CHECK.due("nothing refused", x.refusal(0), MateKeys.NOTHING);
    }

    private static void mirrorEachSquare() {
        CHECK.about("Promise 6 and In doubt: the columns change their places, a with e");
        for (int square = 0; square < 25; square++) {
            MateKeys x = new MateKeys();
            x.put(1 + square % 7, square);
            CHECK.due("mirror", x.mirror(), 1);
            CHECK.due("from " + square, x.at(square / 5 * 5 + 4 - square % 5), 1 + square % 7);
        }
        MateKeys x = CheckKit.board("KQRBN/...../#.k../...../...##");
        x.mirror();
        CHECK.due("the rows stay", CheckKit.show(x), "NBRQK/...../..k.#/...../##...");
    }

    private static void mirrorCounts() {
        CHECK.about("Promise 6: returns how many men and stones there are, 0 to 12");
        MateKeys x = new MateKeys();
        CHECK.due("an empty board", x.mirror(), 0);
        CHECK.due("mirrored", x.account(9), 1);
        CHECK.due("a change of an empty board", x.account(11), 1);
        x = EdgeKit.full();
        CHECK.due("a full board", x.mirror(), 12);
        CHECK.due("the full board", CheckKit.show(x), "....k/...../...K#/.####/R####");
    }

    // ---- promise 7

    private static void thriftLeastAndMost() {
        CHECK.about("Promise 7: returns how many men and stones are taken off");
        MateKeys x = CheckKit.board("k..../...../.K.../...../#...R");
        CHECK.due("one", x.thrift(), 1);
        CHECK.due("the board", CheckKit.show(x), "k..../...../.K.../...../....R");
        CHECK.due("spared", x.account(8), 1);
        x = EdgeKit.full();
        CHECK.due("nine of twelve", x.thrift(), 9);
        CHECK.due("the board", CheckKit.show(x), "k..../...../.K.../...../....R");
        CHECK.due("spared", x.account(8), 9);
        CHECK.due("stones taken", x.account(7), 0);
        CHECK.due("undo of all", x.undo(), 7);
        CHECK.due("the board", CheckKit.show(x), "k..../...../#K.../####./####R");
    }

    private static void thriftHighestFirst() {
        CHECK.about("Terms, sparing: takes off the highest square's one that can be spared");
        MateKeys x = CheckKit.board("k..../.#.../...../.N.../...BR");
        CHECK.due("the lower guard alone", x.manOf(3, 3), 1);
        CHECK.due("the higher guard alone", x.manOf(6, 3), 1);
        CHECK.due("one of the guards", x.thrift(), 1);
        CHECK.due("the higher one is off", x.at(6), 0);
        CHECK.due("the lower one is there", x.at(3), 4);
        CHECK.about("Promise 7 and Terms, sparing: not one without which the position is not fit");
        // Without the stone on a4 the only key would be the same, but the rook on a1 would attack.
        x = CheckKit.board("k..../##.../...../...../R...R");
        CHECK.due("one", x.thrift(), 1);
        CHECK.due("the board", CheckKit.show(x), "k..../##.../...../...../....R");
    }

    private static void thriftTimeAndAgain() {
        CHECK.about("Terms, sparing: time and again, until there is none");
        MateKeys x = CheckKit.board("k..../...../.K.#./...../...RR");
        CHECK.due("the stone first", x.manOf(13, 3), 0);
        CHECK.due("both", x.thrift(), 2);
        CHECK.due("the stone behind the rook", x.at(13), 0);
        CHECK.refused(x, "none is left", x.thrift(), 6, 3);
    }

    private static void thriftNotFit() {
        CHECK.about("Promise 7: REFUSED for the reason 7, how many white men attack the black king");
        MateKeys x = new MateKeys();
        CHECK.refused(x, "an empty board", x.thrift(), 7, 0);
        x = EdgeKit.kingless();
        CHECK.refused(x, "0 without one", x.thrift(), 7, 0);
        x = CheckKit.board("k..../.K.../...../...../.....");
        CHECK.refused(x, "1, the white king beside it", x.thrift(), 7, 1);
        x = CheckKit.board("kQ.../.K.../...../...../R....");
        CHECK.refused(x, "3", x.thrift(), 7, 3);
        x = CheckKit.board("R..../...../.N.../...../k...R");
        CHECK.refused(x, "3 of one on a1", x.thrift(), 7, 3);
        x = CheckKit.board("R...k/...../...../...../....R");
        CHECK.refused(x, "2 of one on e5", x.thrift(), 7, 2);
        x = CheckKit.board(".N.N./NQQQN/..k../N...N/.N.N.");
        CHECK.refused(x, "11, the most that there can be", x.thrift(), 7, 11);
        CHECK.about("Promise 7: REFUSED for the reason 7 ahead of 6");
        x = CheckKit.board("k...R/...../...../...../.....");
        CHECK.refused(x, "not fit, and nothing to spare", x.thrift(), 7, 1);
        EDGES.refuses("where not fit", EdgeKit::notFit, y -> y.thrift(), 7, 1);
        EDGES.refuses("without a black king", EdgeKit::kingless, y -> y.thrift(), 7, 0);
    }

    private static void thriftNothingToSpare() {
        CHECK.about("Promise 7: REFUSED for the reason 6, how many men and stones there are");
        MateKeys x = CheckKit.board("..k../...../...../...../.....");
        CHECK.refused(x, "1, the least", x.thrift(), 6, 1);
        x = CheckKit.board("k.#.#/#.#../.K.#./#.#../#.#.R");
        CHECK.due("no key", x.key(0), MateKeys.NONE);
        CHECK.refused(x, "12, the most", x.thrift(), 6, 12);
        CHECK.due("spared", x.account(8), 0);
        EDGES.refuses("all are needed", EdgeKit::oneKey, y -> y.thrift(), 6, 3);
        CHECK.about("In doubt: without a key nothing can be spared");
        x = CheckKit.board("k..../...../...../#.#../#...R");
        CHECK.refused(x, "no key", x.thrift(), 6, 5);
    }

    // ---- promise 8

    private static void atEach() {
        CHECK.about("Promise 8: returns what it is, 0 if it is empty; NONE if there is no such square");
        MateKeys x = CheckKit.board("....k/...../...../...../K....");
        CHECK.due("at 0", x.at(0), 1);
        CHECK.due("at 24", x.at(24), 7);
        for (int square = 1; square < 24; square++) {
            CHECK.due("at " + square, x.at(square), 0);
        }
        for (int square : EdgeKit.NO_SQUARES) {
            CHECK.due("at " + square, x.at(square), MateKeys.NONE);
        }
        EDGES.leavesAll("at -1", EdgeKit::busyWithText, y -> y.at(-1), MateKeys.NONE);
        EDGES.leavesAll("at 25", EdgeKit::busyWithText, y -> y.at(25), MateKeys.NONE);
        EDGES.leavesAll("at 0", EdgeKit::busyWithText, y -> y.at(0), 6);
    }
}
