/** The edges of promises 9 to 14; each test names its promise and the sentence that it holds to. */
public final class AttacksEdgesTest {
    private static final CheckKit CHECK = new CheckKit();
    private static final EdgeKit EDGES = new EdgeKit(CHECK);
    private static final String LETTERS = ".KQRBN#k";
    private static final String EMPTY = ".".repeat(25);

    public static void main(String[] args) {
        attackersNoSquare();
        attackersLeastAndMost();
        eachManFromEachSquare();
        linesToTheFirst();
        notByItself();
        ownColourAsOthers();
        neitherStonesNorBlackKing();
        manOfNoSquare();
        manOfNoWhat();
        manOfEmptySquare();
        manOfNotFit();
        manOfErrorsInOrder();
        manOfSquares();
        manOfMoves();
        manOfKeys();
        manOfSpared();
        manOfStonesAndBlackKing();
        moveLeastAndMost();
        movePlaces();
        moveNone();
        escapesWithoutKing();
        escapesOfEachSquare();
        escapesNone();
        escapesAlongLines();
        escapesByTaking();
        escapesByTakingTheWhiteKing();
        escapesFromEachMan();
        isFitConditions();
        isFitBeside();
        CHECK.finish();
    }

    // ---- promises 9 and 10

    private static void bothWays(MateKeys x, String call, int square, int due) {
        CHECK.due(call + ": attackers " + square, x.attackers(square), due);
        CHECK.due(call + ": attackersAgain " + square, x.attackersAgain(square), due);
    }

    private static void attackersNoSquare() {
        CHECK.about("Promises 9 and 10: NONE if there is no such square");
        MateKeys x = CheckKit.board("Q...Q/...../..Q../...../Q...Q");
        for (int square : EdgeKit.NO_SQUARES) {
            bothWays(x, "queens", square, MateKeys.NONE);
            bothWays(new MateKeys(), "an empty board", square, MateKeys.NONE);
        }
        EDGES.leavesAll("attackers -1", EdgeKit::busyWithText, y -> y.attackers(-1), MateKeys.NONE);
        EDGES.leavesAll("attackers 25", EdgeKit::busyWithText, y -> y.attackers(25), MateKeys.NONE);
        EDGES.leavesAll("attackersAgain -1", EdgeKit::busyWithText, y -> y.attackersAgain(-1), MateKeys.NONE);
        EDGES.leavesAll("attackersAgain 25", EdgeKit::busyWithText, y -> y.attackersAgain(25), MateKeys.NONE);
        EDGES.leavesAll("attackers 20", EdgeKit::notFit, y -> y.attackers(20), 1);
        EDGES.leavesAll("attackersAgain 20", EdgeKit::notFit, y -> y.attackersAgain(20), 1);
    }

    private static void attackersLeastAndMost() {
        CHECK.about("Promises 9 and 10: returns how many, 0 to 12");
        MateKeys x = new MateKeys();
        for (int square = 0; square < 25; square++) {
            bothWays(x, "an empty board", square, 0);
        }
        bothWays(CheckKit.board(".N.N./NQQQN/.Q.../N...N/.N.N."), "all twelve", 12, 12);
        bothWays(CheckKit.board("...../.QRQ./.RkR./.QRB./....."), "eight lines", 12, 8);
        bothWays(CheckKit.board("B.R.B/...../R.k.R/...../B.R.B"), "eight lines from afar", 12, 8);
        bothWays(CheckKit.board("Q..../...../...../...../R...."), "a corner", 0, 1);
    }

    private static void eachManFromEachSquare() {
        CHECK.about("Promises 9 and 10, and Terms, attacks: one man alone, up to the board's edges");
        for (int man = 1; man <= 7; man++) {
            for (int from = 0; from < 25; from++) {
                String men = ModelKit.with(EMPTY, from, LETTERS.charAt(man));
                MateKeys x = new MateKeys();
                x.put(man, from);
                int count = 0;
                for (int square = 0; square < 25; square++) {
                    int due = ModelKit.attacks(men, from, square) ? 1 : 0;
                    count += due;
                    bothWays(x, LETTERS.charAt(man) + " on " + from, square, man == 7 ? 0 : due);
                }
                CHECK.due(man + " on " + from + ": manOf 0", x.manOf(from, 0), count);
                CHECK.due(man + " on " + from + ": account 5", x.account(5), man == 7 ? 0 : count);
            }
        }
    }

    private static void linesToTheFirst() {
        CHECK.about("Terms, attacks: each square up to the first one that is not empty, that one included");
        int[] froms = {0, 4, 7, 10, 12, 20, 24};
        for (int man = 2; man <= 4; man++) {
            for (int from : froms) {
                for (int there = 1; there <= 7; there++) {
                    for (int square = 0; square < 25; square++) {
                        lineTo(man, from, there, square);
                    }
                }
            }
        }
    }

    private static void lineTo(int man, int from, int there, int square) {
        if (square == from) {
            return;
        }
        String alone = ModelKit.with(EMPTY, from, LETTERS.charAt(man));
        String men = ModelKit.with(alone, square, LETTERS.charAt(there));
        MateKeys x = new MateKeys();
        x.put(man, from);
        x.put(there, square);
        int count = 0;
        for (int to = 0; to < 25; to++) {
            boolean byFirst = ModelKit.attacks(men, from, to);
            boolean bySecond = there < 6 && ModelKit.attacks(men, square, to);
            count += byFirst ? 1 : 0;
            bothWays(x, men, to, (byFirst ? 1 : 0) + (bySecond ? 1 : 0));
        }
        CHECK.due(men + ": manOf 0", x.manOf(from, 0), count);
    }

    private static void notByItself() {
        CHECK.about("In doubt: a man is not attacked by itself");
        for (int man = 1; man <= 5; man++) {
            for (int square : EdgeKit.SOME_SQUARES) {
                MateKeys x = new MateKeys();
                x.put(man, square);
                bothWays(x, "man " + man, square, 0);
            }
        }
    }

    private static void ownColourAsOthers() {
        CHECK.about("In doubt: a man attacks its own colour's men as others");
        for (int man = 1; man <= 5; man++) {
            for (int there = 1; there <= 7; there++) {
                MateKeys x = new MateKeys();
                x.put(man, 0);
                int to = man == 5 ? 7 : man == 4 ? 6 : 1;
                if (there == man && man == 1) {
                    continue;
                }
                x.put(there, to);
                CHECK.due("man " + man + " on to " + there, x.attackers(to), 1);
                CHECK.due("man " + man + " on to " + there + ", again", x.attackersAgain(to), 1);
            }
        }
    }

    private static void neitherStonesNorBlackKing() {
        CHECK.about("Terms, attacks: a stone attacks nothing; promises 9 and 10: how many white men");
        MateKeys x = CheckKit.board("#####/#...#/..k../#...#/.....");
        for (int square = 0; square < 25; square++) {
            bothWays(x, "stones and the black king", square, 0);
        }
        CHECK.due("squares that White attacks", x.account(5), 0);
        CHECK.due("the share", x.share(), 0);
    }

    // ---- promise 11

    private static void manOfNoSquare() {
        CHECK.about("Promise 11: NONE if there is no such square");
        MateKeys x = EdgeKit.full();
        for (int square : EdgeKit.NO_SQUARES) {
            for (int what = -1; what <= 4; what++) {
                CHECK.due("manOf " + square + " " + what, x.manOf(square, what), MateKeys.NONE);
            }
        }
    }

    private static void manOfNoWhat() {
        CHECK.about("Promise 11: BAD if there is no such what");
        MateKeys x = EdgeKit.full();
        for (int what : EdgeKit.outside(0, 3)) {
            for (int square : EdgeKit.SOME_SQUARES) {
                CHECK.due("manOf " + square + " " + what, x.manOf(square, what), MateKeys.BAD);
            }
        }
    }

    private static void manOfEmptySquare() {
        CHECK.about("Promise 11: NOTHING if the square is empty");
        for (int what = 0; what < 4; what++) {
            for (int square = 0; square < 25; square++) {
                CHECK.due("manOf " + square + " " + what, new MateKeys().manOf(square, what),
                    MateKeys.NOTHING);
            }
        }
    }

    private static void manOfNotFit() {
        CHECK.about("Promise 11: for 2 and 3 also NOTHING if the position is not fit");
        MateKeys x = CheckKit.board("k...R/#..../.K.../...../B.N.Q");
        int[] squares = {20, 24, 15, 11, 0, 2, 4};
        for (int square : squares) {
            CHECK.due("manOf " + square + " 0", x.manOf(square, 0) >= 0 ? 1 : 0, 1);
            CHECK.due("manOf " + square + " 1", x.manOf(square, 1) >= 0 ? 1 : 0, 1);
            CHECK.due("manOf " + square + " 2", x.manOf(square, 2), MateKeys.NOTHING);
            CHECK.due("manOf " + square + " 3", x.manOf(square, 3), MateKeys.NOTHING);
        }
        x = EdgeKit.kingless();
        CHECK.due("keys without a black king", x.manOf(0, 2), MateKeys.NOTHING);
        CHECK.due("sparing without a black king", x.manOf(22, 3), MateKeys.NOTHING);
        CHECK.due("moves without a black king", x.manOf(0, 1), 7);
    }

    private static void manOfErrorsInOrder() {
        CHECK.about("Promise 11: NONE ahead of BAD, BAD ahead of NOTHING");
        MateKeys x = EdgeKit.notFit();
        CHECK.due("NONE ahead of BAD", x.manOf(25, 4), MateKeys.NONE);
        CHECK.due("NONE ahead of BAD", x.manOf(-1, -1), MateKeys.NONE);
        CHECK.due("BAD ahead of NOTHING, empty", x.manOf(23, 4), MateKeys.BAD);
        CHECK.due("BAD ahead of NOTHING, empty", x.manOf(23, -1), MateKeys.BAD);
        CHECK.due("BAD ahead of NOTHING, not fit", x.manOf(24, 4), MateKeys.BAD);
        EDGES.leavesAll("no square", EdgeKit::busyWithText, y -> y.manOf(25, 0), MateKeys.NONE);
        EDGES.leavesAll("no what", EdgeKit::busyWithText, y -> y.manOf(0, 4), MateKeys.BAD);
        EDGES.leavesAll("empty", EdgeKit::busyWithText, y -> y.manOf(1, 3), MateKeys.NOTHING);
        EDGES.leavesAll("not fit", EdgeKit::notFit, y -> y.manOf(24, 3), MateKeys.NOTHING);
        EDGES.leavesAll("sparing", EdgeKit::full, y -> y.manOf(0, 3), 1);
    }

    private static void manOfSquares() {
        CHECK.about("Promise 11: 0 how many squares it attacks, the least and the most");
        CHECK.due("a bishop walled in", CheckKit.board("...../...../...../.#.../B....").manOf(0, 0), 1);
        CHECK.due("a rook walled in", CheckKit.board("...../...../...../#..../R#...").manOf(0, 0), 2);
        CHECK.due("a queen walled in", CheckKit.board("###../#Q#../###../...../.....").manOf(16, 0), 8);
        CHECK.due("a queen on c3", CheckKit.board("...../...../..Q../...../.....").manOf(12, 0), 16);
        CHECK.due("a knight in a corner", CheckKit.board("....N/...../...../...../.....").manOf(24, 0), 2);
        CHECK.due("a knight on c3", CheckKit.board("...../...../..N../...../.....").manOf(12, 0), 8);
        CHECK.due("a king in a corner", CheckKit.board("...../...../...../...../....K").manOf(4, 0), 3);
        CHECK.due("a king on c3", CheckKit.board("...../...../..K../...../.....").manOf(12, 0), 8);
    }

    private static void manOfMoves() {
        CHECK.about("Promise 11: 1 how many moves it has, the least and the most");
        CHECK.due("among its own men", CheckKit.board("...../...../...../NN.../RN...").manOf(0, 1), 0);
        CHECK.due("among stones", CheckKit.board("...../...../...../##.../R#...").manOf(0, 1), 2);
        CHECK.due("a queen on c3", CheckKit.board("...../...../..Q../...../.....").manOf(12, 1), 16);
        CHECK.due("beside the black king", CheckKit.board("...../...../...../.k.../Q....").manOf(0, 1), 8);
        CHECK.due("a king held by the other", CheckKit.board("...../...../k..../...../K....").manOf(0, 1), 1);
        MateKeys x = CheckKit.board("...../...../.k.../...../KR...");
        CHECK.due("a king held in the corner", x.manOf(0, 1), 0);
        CHECK.due("the squares that it attacks", x.manOf(0, 0), 3);
    }

    private static void manOfKeys() {
        CHECK.about("Promise 11: 2 how many keys are its moves");
        MateKeys x = EdgeKit.oneKey();
        CHECK.due("the rook", x.manOf(4, 2), 1);
        CHECK.due("the white king", x.manOf(11, 2), 0);
        x = CheckKit.board("k..../...../.K.../...../Q...R");
        CHECK.due("not fit by the queen on a1", x.manOf(0, 2), MateKeys.NOTHING);
        x = CheckKit.board("k..../...Q./.K.../...../....R");
        CHECK.due("the queen's, to a4, b4, c5, d5 and e5", x.manOf(18, 2), 5);
        CHECK.due("the rook beside it", x.manOf(4, 2), 1);
        CHECK.due("all keys", x.many(3), 6);
    }

    private static void manOfSpared() {
        CHECK.about("Promise 11 and Terms, sparing: 3: 1 if it can be spared, otherwise 0");
        CHECK.due("a stone that bars nothing", EdgeKit.full().manOf(0, 3), 1);
        CHECK.due("the last of a full board", EdgeKit.full().manOf(10, 3), 1);
        CHECK.due("the man that moves in the key told", EdgeKit.full().manOf(4, 3), 0);
        MateKeys x = CheckKit.board("k..../#..../.K.../...../R...R");
        CHECK.due("without it not fit", x.manOf(15, 3), 0);
        x = CheckKit.board("k..../##.../...../...../R...R");
        CHECK.due("without it not fit, though with the same key", x.manOf(15, 3), 0);
        CHECK.due("the rook that would attack", x.manOf(0, 3), 1);
        x = CheckKit.board("k..../...../.K.#./...../...RR");
        CHECK.due("without it one key more", x.manOf(13, 3), 0);
        x = CheckKit.board("k..../...../.K.../...../...RR");
        CHECK.due("without it one key less", x.manOf(4, 3), 0);
        x = CheckKit.board("k..../...../.K.../....R/...RR");
        CHECK.due("without it as many keys, but another", x.manOf(9, 3), 0);
        x = CheckKit.board("...RR/...../.K..#/...../k....");
        CHECK.due("without it one key more, from e5", x.manOf(14, 3), 0);
        x = CheckKit.board("..k../...../#.K../...../R...R");
        CHECK.due("without it one key more, from a1", x.manOf(10, 3), 0);
        x = CheckKit.board("k..../.#.../...../...../....R");
        CHECK.due("without it no key", x.manOf(16, 3), 0);
        x = CheckKit.board("k..../...../...../..#../....R");
        CHECK.due("without a key nothing can be spared", x.manOf(7, 3), 0);
        x = CheckKit.board("k..../.#.../...../.N.../...BR");
        CHECK.due("a man", x.manOf(6, 3), 1);
        CHECK.about("In doubt: kings cannot be spared");
        x = CheckKit.board("k..../.#.../...../.N.../K...R");
        CHECK.due("there is a key", x.key(0), 424);
        CHECK.due("the white king", x.manOf(0, 3), 0);
        CHECK.due("the black king", x.manOf(20, 3), 0);
    }

    private static void manOfStonesAndBlackKing() {
        CHECK.about("Promise 11: 0 for moves and keys of a stone and the black king");
        MateKeys x = CheckKit.board("k..../...../.K.../...../#...R");
        for (int what = 1; what <= 2; what++) {
            CHECK.due("a stone: " + what, x.manOf(0, what), 0);
            CHECK.due("the black king: " + what, x.manOf(20, what), 0);
        }
        CHECK.due("the squares of a stone", x.manOf(0, 0), 0);
        CHECK.about("In doubt: the black king attacks the squares beside it");
        CHECK.due("in a corner", x.manOf(20, 0), 3);
        CHECK.due("amid", CheckKit.board("...../.##../.#k../...../.....").manOf(12, 0), 8);
        CHECK.due("at an edge", CheckKit.board("...../...../k..../...../.....").manOf(10, 0), 5);
    }

    // ---- promise 12

    private static void moveLeastAndMost() {
        CHECK.about("Promise 12 and Terms, moves: 100 times the square from which it is, and the other");
        MateKeys x = CheckKit.board("...../...../...../##.../R....");
        CHECK.due("the least", x.move(0), 1);
        CHECK.due("the last", x.move(4), 5);
        CHECK.due("behind it", x.move(5), MateKeys.NONE);
        x = CheckKit.board("....R/...../...../...../.....");
        CHECK.due("the first", x.move(0), 2404);
        CHECK.due("the greatest", x.move(7), 2423);
        CHECK.due("behind it", x.move(8), MateKeys.NONE);
        x = CheckKit.board("....N/...../...../...../N....");
        int[] due = {7, 11, 2413, 2417};
        for (int place = 0; place < 4; place++) {
            CHECK.due("by their numbers, " + place, x.move(place), due[place]);
        }
    }

    private static void movePlaces() {
        CHECK.about("Promise 12: NONE if there is no such place");
        String[] boards = {
            "k..../...../.K.../...../....R", "Q...Q/.Q.Q./Q..../Q.Q.Q/..QQ.", "k...R/...../.K.../...../#....",
            "...../...../...../...../....K"
        };
        for (String board : boards) {
            MateKeys x = CheckKit.board(board);
            int count = x.account(4);
            for (int place = 1; place < count; place++) {
                CHECK.due(board + ": move " + place + " behind the one before",
                    x.move(place) > x.move(place - 1) ? 1 : 0, 1);
            }
            for (int place : EdgeKit.outside(0, count - 1)) {
                CHECK.due(board + ": move " + place, x.move(place), MateKeys.NONE);
            }
        }
        EDGES.leavesAll("move -1", EdgeKit::busyWithText, x -> x.move(-1), MateKeys.NONE);
        EDGES.leavesAll("the move behind the last", EdgeKit::busyWithText, x -> x.move(99), MateKeys.NONE);
        EDGES.leavesAll("the first move", EdgeKit::kingless, x -> x.move(0), 1);
    }

    private static void moveNone() {
        CHECK.about("Promise 12: a move of White, none of stones and of the black king");
        MateKeys[] boards = {new MateKeys(), CheckKit.board("#..../.k.../...#./...../....#")};
        for (MateKeys x : boards) {
            CHECK.due("move 0", x.move(0), MateKeys.NONE);
            CHECK.due("all moves", x.account(4), 0);
        }
        CHECK.about("Promise 12: in a position that is not fit, too");
        MateKeys x = CheckKit.board("k..../K..../...../...../.....");
        CHECK.due("off the black king", x.move(0), 1510);
        CHECK.due("the second", x.move(1), 1511);
        CHECK.due("no third", x.move(2), MateKeys.NONE);
    }

    // ---- promise 13

    private static void escapesWithoutKing() {
        CHECK.about("Promise 13: NOTHING without a black king");
        CHECK.due("empty", new MateKeys().escapes(), MateKeys.NOTHING);
        CHECK.due("white men", EdgeKit.kingless().escapes(), MateKeys.NOTHING);
        MateKeys x = EdgeKit.oneKey();
        x.lift(20);
        CHECK.due("lifted", x.escapes(), MateKeys.NOTHING);
        EDGES.leavesAll("no black king", EdgeKit::kingless, y -> y.escapes(), MateKeys.NOTHING);
    }

    private static void escapesOfEachSquare() {
        CHECK.about("Promise 13: their set, bit k for the square k, of the king alone");
        for (int king = 0; king < 25; king++) {
            MateKeys x = new MateKeys();
            x.put(7, king);
            int due = 0;
            for (int to = 0; to < 25; to++) {
                due |= ModelKit.attacks(ModelKit.with(EMPTY, king, 'k'), king, to) ? 1 << to : 0;
            }
            CHECK.due("k on " + king, x.escapes(), due);
        }
        CHECK.due("bit 0 alone", CheckKit.board("...../...../...../###../.k#..").escapes(), 1);
        CHECK.due("bit 24 alone", CheckKit.board("..#k./..###/...../...../.....").escapes(), 1 << 24);
    }

    private static void escapesNone() {
        CHECK.about("Promise 13: the empty set");
        CHECK.due("stones", CheckKit.board("k#.../##.../...../...../.....").escapes(), 0);
        CHECK.due("mate", CheckKit.board("k...R/...../.K.../...../.....").escapes(), 0);
        CHECK.due("dull", CheckKit.board("...../...../.Q.../...../k....").escapes(), 0);
        CHECK.about("Promise 13: where the position is not fit, too");
        CHECK.due("attacked", CheckKit.board("k...R/...../...../...../.....").escapes(), 1 << 15 | 1 << 16);
        EDGES.leavesAll("attacked", EdgeKit::notFit, y -> y.escapes(), 0);
        EDGES.leavesAll("free", EdgeKit::oneKey, y -> y.escapes(), 1 << 21);
    }

    private static void escapesAlongLines() {
        CHECK.about("In doubt: as the black king moves, its old square is empty, lines go on over it");
        CHECK.due("a rook", CheckKit.board("R.k../.###./...../...../.....").escapes(), 0);
        CHECK.due("a rook beside it", CheckKit.board("...../...../...../####./.Rk..").escapes(), 2);
        CHECK.due("a bishop", CheckKit.board("...../...#./.#k#./#.##./B....").escapes(),
            CheckKit.set("b4", "c4"));
        CHECK.due("to d4", CheckKit.board("...../.##../.#k#./..##./B....").escapes(), 0);
        CHECK.due("a queen", CheckKit.board("..Q../.#.#./.#k#./.#.#./.....").escapes(), 0);
        CHECK.due("a stone ends it", CheckKit.board("..Q../.###./.#k#./.#.#./.....").escapes(),
            CheckKit.set("c2"));
    }

    private static void escapesByTaking() {
        CHECK.about("Terms, answers: a white man there is taken, which no white man attacks then");
        for (int man = 2; man <= 5; man++) {
            MateKeys x = CheckKit.board("...../...../...../...../k....");
            x.put(man, 1);
            CHECK.due("alone: " + man, x.escapes() & 2, 2);
            x.put(3, 4);
            CHECK.due("guarded by a rook: " + man, x.escapes() & 2, 0);
            x.put(6, 3);
            CHECK.due("the guard is barred: " + man, x.escapes() & 2, 2);
        }
        CHECK.due("guarded over the king's old square",
            CheckKit.board("...../...../...../###../NkR..").escapes(), 1 << 2);
        CHECK.about("Terms, answers: a square beside it on which there is no stone");
        CHECK.due("a stone", CheckKit.board("...../...../...../...../k#...").escapes() & 2, 0);
    }

    private static void escapesByTakingTheWhiteKing() {
        CHECK.about("Terms, the board: a white king is a white man; In doubt: not attacked by itself");
        CHECK.due("alone", CheckKit.board("...../...../...../...../kK...").escapes(), 1 << 1);
        CHECK.due("guarded", CheckKit.board("...../...../...../...../kK..R").escapes(), 0);
        CHECK.due("the guard is barred", CheckKit.board("...../...../...../...../kK.#R").escapes(), 1 << 1);
        CHECK.due("guarded over the black king's old square",
            CheckKit.board("...../...../...../...../RkK..").escapes(), 1);
        CHECK.due("guarded by a knight", CheckKit.board("...../...../N..../...../kK...").escapes(), 0);
    }

    private static void escapesFromEachMan() {
        CHECK.about("Promise 13: the king with one man and a stone, on many squares");
        for (int man = 1; man <= 5; man++) {
            for (int king = 0; king < 25; king++) {
                for (int square = 0; square < 25; square++) {
                    if (square != king) {
                        escapesFrom(man, king, square, (king * 7 + square * 3) % 25);
                    }
                }
            }
        }
    }

    private static void escapesFrom(int man, int king, int square, int stone) {
        MateKeys x = new MateKeys();
        x.put(7, king);
        x.put(man, square);
        String men = ModelKit.with(ModelKit.with(EMPTY, king, 'k'), square, LETTERS.charAt(man));
        if (stone != king && stone != square) {
            x.put(6, stone);
            men = ModelKit.with(men, stone, '#');
        }
        int due = 0;
        for (int to : ModelKit.flights(men)) {
            due |= 1 << to;
        }
        CHECK.due(men + ": escapes", x.escapes(), due);
        CHECK.due(men + ": isFit", x.isFit(), ModelKit.fit(men) ? 1 : 0);
    }

    // ---- promise 14

    private static void isFitConditions() {
        CHECK.about("Promise 14 and Terms, problems: fit if there is a black king");
        CHECK.due("an empty board", new MateKeys().isFit(), 0);
        CHECK.due("no black king", EdgeKit.kingless().isFit(), 0);
        CHECK.due("the black king alone", CheckKit.board("...../...../...../...../k....").isFit(), 1);
        CHECK.due("no white king", CheckKit.board("....k/#..../...../...../R....").isFit(), 1);
        CHECK.about("Promise 14 and Terms, problems: fit if no white man attacks it");
        for (int man = 2; man <= 5; man++) {
            MateKeys x = CheckKit.board("...../...../..k../...../.....");
            x.put(man, man == 3 ? 2 : man == 5 ? 1 : 0);
            CHECK.due("attacked by " + man, x.isFit(), 0);
            x.turn();
            CHECK.due("attacked by " + man + ", turned", x.isFit(), 0);
        }
        CHECK.due("a full board", EdgeKit.full().isFit(), 1);
        EDGES.leavesAll("fit", EdgeKit::busyWithText, x -> x.isFit(), 1);
        EDGES.leavesAll("not fit", EdgeKit::notFit, x -> x.isFit(), 0);
    }

    private static void isFitBeside() {
        CHECK.about("Promise 14 and Terms, problems: fit if the white king is not beside it");
        for (int black = 0; black < 25; black++) {
            for (int white = 0; white < 25; white++) {
                if (white != black) {
                    MateKeys x = new MateKeys();
                    x.put(7, black);
                    x.put(1, white);
                    int columns = Math.abs(black % 5 - white % 5);
                    int rows = Math.abs(black / 5 - white / 5);
                    CHECK.due("k on " + black + ", K on " + white, x.isFit(), columns > 1 || rows > 1 ? 1 : 0);
                }
            }
        }
    }
}
