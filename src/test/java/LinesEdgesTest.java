/** The edges of promises 22 to 30; each test names its promise and the sentence that it holds to. */
public final class LinesEdgesTest {
    private static final CheckKit CHECK = new CheckKit();
    private static final EdgeKit EDGES = new EdgeKit(CHECK);
    private static final String ONE_KEY = "k..../...../.K.../...../....R";
    private static final String DULL = ".Q.../...../...../...../k....";

    public static void main(String[] args) {
        showEmptyAndFull();
        showInPlaceOfTheLine();
        tellEachSign();
        tellFarSquares();
        tellInPlaceOfTheLine();
        tellNoSquare();
        tellNoMove();
        tellNotFit();
        signOfEmptyLine();
        signAtBothEnds();
        appendCodes();
        appendUpToSeventy();
        readEmptyText();
        readEachCommand();
        readSquares();
        readMostCommands();
        faultOfFirstCharacter();
        faultWithinCommand();
        faultOfSeparators();
        faultOfEarlyEnd();
        faultOfLongTexts();
        faultAheadOfRefusal();
        faultLeavesAll();
        readRefusedForEachReason();
        readAllOrNone();
        readIsOneChange();
        readEmptiesTheText();
        refusalNoWhat();
        refusalOfNothing();
        refusalStays();
        refusalCommand();
        accountNoWhat();
        accountCountsMen();
        accountBlackKing();
        accountMovesAndSquares();
        accountsSoFar();
        accountTextAndChanges();
        isWellOfAll();
        shareOfNoneAndAll();
        CHECK.finish();
    }

    // ---- promises 22 to 24

    private static void showIs(String board) {
        MateKeys x = CheckKit.board(board);
        CHECK.due("length", x.show(), 29);
        CHECK.due("line", CheckKit.line(x), board);
    }

    private static void showEmptyAndFull() {
        CHECK.about("Promise 22 and Terms, lines: the rows from the row 5 down; returns its length, 29");
        showIs("...../...../...../...../.....");
        showIs("k..../...../#K.../####./####R");
        showIs("KQRBN/#k.../...../...../.....");
        showIs("...../...../...../...#k/NBRQK");
        showIs("N...B/...../..k../...../R...#");
        EDGES.leavesAllButLine("show", EdgeKit::busyWithText, x -> x.show(), 29);
        EDGES.leavesAllButLine("show", MateKeys::new, x -> x.show(), 29);
    }

    private static void showInPlaceOfTheLine() {
        CHECK.about("Promise 22: in place of the line before");
        MateKeys x = CheckKit.board(ONE_KEY);
        x.tell(4, 24);
        CHECK.due("a longer line", CheckKit.show(x), ONE_KEY);
        x.lift(4);
        CHECK.due("the line stays", CheckKit.line(x), ONE_KEY);
        CHECK.due("the board of now", CheckKit.show(x), "k..../...../.K.../...../.....");
    }

    private static void tellIs(String board, String from, String to, String due) {
        CHECK.due(board, CheckKit.tell(CheckKit.board(board), from, to), due);
    }

    private static void tellEachSign() {
        CHECK.about("Promise 23 and Terms, lines: # if it mates, + if it is a try, = if it is dull");
        tellIs(ONE_KEY, "e1", "e5", "Re1-e5#");
        tellIs(ONE_KEY, "e1", "a1", "Re1-a1+");
        tellIs(DULL, "b5", "b3", "Qb5-b3=");
        CHECK.about("Promise 23: no sign behind another move; returns its length, 6");
        tellIs(ONE_KEY, "e1", "e2", "Re1-e2");
        CHECK.due("length", CheckKit.board(ONE_KEY).tell(4, 9), 6);
        CHECK.due("length with a sign", CheckKit.board(ONE_KEY).tell(4, 24), 7);
        CHECK.about("Promise 23 and Terms, lines: x if it takes a stone");
        tellIs("k...#/...../.K.../...../....R", "e1", "e5", "Re1xe5#");
        tellIs("k..../...../.K.../...../#...R", "e1", "a1", "Re1xa1+");
        tellIs("k..../...../.K#../...../....R", "b3", "c3", "Kb3xc3");
        tellIs(".Q.../...../.#.../...../k....", "b5", "b3", "Qb5xb3=");
        CHECK.about("Promise 23 and Terms, lines: the letter of its man");
        tellIs("....k/...../...../...../N....", "a1", "b3", "Na1-b3");
        tellIs("....k/...../...../...../..B..", "c1", "a3", "Bc1-a3");
        tellIs("....k/...../...../...../.Q...", "b1", "a1", "Qb1-a1+");
    }

    private static void tellFarSquares() {
        CHECK.about("Promise 23 and Terms, lines: squares are told as in c3, a1 to e5");
        tellIs("..k../...../...../...../R....", "a1", "b1", "Ra1-b1");
        tellIs("..k../...../...../...../R....", "a1", "a5", "Ra1-a5+");
        tellIs("....R/...../...../...../..k..", "e5", "e1", "Re5-e1+");
        tellIs("....R/...../...../...../..k..", "e5", "d5", "Re5-d5");
        tellIs("...../N..../...../...../..k..", "a4", "c5", "Na4-c5");
    }

    private static void tellInPlaceOfTheLine() {
        CHECK.about("Promise 23: in place of the line before");
        MateKeys x = CheckKit.board(ONE_KEY);
        x.show();
        CHECK.due("a shorter line", CheckKit.tell(x, "e1", "e2"), "Re1-e2");
        CHECK.due("behind it", x.sign(6), MateKeys.NONE);
        CHECK.due("a longer line", CheckKit.tell(x, "e1", "a1"), "Re1-a1+");
        CHECK.due("at the old end", x.sign(6), '+');
        EDGES.leavesAllButLine("tell", EdgeKit::oneKey, y -> y.tell(4, 24), 7);
        EDGES.leavesAllButLine("tell of a stone taken", EdgeKit::full, y -> y.tell(4, 3), 6);
        EDGES.leavesAllButLine("tell", EdgeKit::busyWithText, y -> y.tell(3, 0), 7);
    }

    private static void tellNoSquare() {
        CHECK.about("Promise 23: NONE if there is no such square, for either, ahead of NOTHING");
        MateKeys[] boards = {CheckKit.board(ONE_KEY), EdgeKit.notFit(), new MateKeys()};
        for (MateKeys x : boards) {
            x.show();
            for (int square : EdgeKit.NO_SQUARES) {
                CHECK.due("from " + square, x.tell(square, 24), MateKeys.NONE);
                CHECK.due("to " + square, x.tell(4, square), MateKeys.NONE);
                CHECK.due("from and to " + square, x.tell(square, square), MateKeys.NONE);
            }
            CHECK.due("the line stays", CheckKit.line(x).length(), 29);
        }
        EDGES.leavesAll("from -1", EdgeKit::busyWithText, y -> y.tell(-1, 0), MateKeys.NONE);
        EDGES.leavesAll("to 25", EdgeKit::busyWithText, y -> y.tell(3, 25), MateKeys.NONE);
    }

    private static void tellNoMove() {
        CHECK.about("Promise 23: NONE if there is no such move, ahead of NOTHING");
        MateKeys[] boards = {CheckKit.board(ONE_KEY), EdgeKit.notFit()};
        for (MateKeys x : boards) {
            CHECK.due("an empty square", x.tell(23, 22), MateKeys.NONE);
            CHECK.due("to its own square", x.tell(11, 11), MateKeys.NONE);
            CHECK.due("the black king", x.tell(20, 21), MateKeys.NONE);
            CHECK.due("the king beside the other", x.tell(11, 15), MateKeys.NONE);
        }
        CHECK.due("on to the black king", EdgeKit.notFit().tell(24, 20), MateKeys.NONE);
        EDGES.leavesAll("no move", EdgeKit::busyWithText, y -> y.tell(3, 9), MateKeys.NONE);
        EDGES.leavesAll("no move where not fit", EdgeKit::notFit, y -> y.tell(24, 20), MateKeys.NONE);
    }

    private static void tellNotFit() {
        CHECK.about("Promise 23: NOTHING if the position is not fit, and the line stays");
        CHECK.due("no black king", EdgeKit.kingless().tell(0, 1), MateKeys.NOTHING);
        CHECK.due("beside", CheckKit.board("kK.../...../...../...../.....").tell(21, 17), MateKeys.NOTHING);
        MateKeys x = CheckKit.board("k...R/...../...../...../.....");
        CHECK.due("ahead of a line", x.tell(24, 23), MateKeys.NOTHING);
        CHECK.due("the line is empty", x.sign(0), MateKeys.NONE);
        EDGES.leavesAll("not fit", EdgeKit::notFit, y -> y.tell(24, 23), MateKeys.NOTHING);
    }

    private static void signOfEmptyLine() {
        CHECK.about("Promise 24: the line is empty at first; NONE if there is no such index");
        MateKeys x = new MateKeys();
        for (int index = -1; index <= 30; index++) {
            CHECK.due("sign " + index, x.sign(index), MateKeys.NONE);
        }
        CHECK.due("the least", x.sign(EdgeKit.LEAST), MateKeys.NONE);
        CHECK.due("the most", x.sign(EdgeKit.MOST), MateKeys.NONE);
        CheckKit.read(x, "ka5");
        CHECK.due("behind a text", x.sign(0), MateKeys.NONE);
    }

    private static void signAtBothEnds() {
        CHECK.about("Promise 24: returns its code; NONE if there is no such index, from 0");
        MateKeys x = CheckKit.board("N..../...../..k../...../....#");
        x.show();
        CHECK.due("sign 0", x.sign(0), 'N');
        CHECK.due("sign 28", x.sign(28), '#');
        for (int index : EdgeKit.outside(0, 28)) {
            CHECK.due("sign " + index + " of 29", x.sign(index), MateKeys.NONE);
        }
        x = CheckKit.board(ONE_KEY);
        x.tell(4, 24);
        CHECK.due("sign 0", x.sign(0), 'R');
        CHECK.due("sign 6", x.sign(6), '#');
        for (int index : EdgeKit.outside(0, 6)) {
            CHECK.due("sign " + index + " of 7", x.sign(index), MateKeys.NONE);
        }
        EDGES.leavesAll("sign 29", EdgeKit::busyWithText, y -> y.sign(29), MateKeys.NONE);
        EDGES.leavesAll("sign -1", EdgeKit::busyWithText, y -> y.sign(-1), MateKeys.NONE);
        EDGES.leavesAll("sign 5", EdgeKit::busyWithText, y -> y.sign(5), '/');
    }

    // ---- promise 25

    private static void appendCodes() {
        CHECK.about("Promise 25: BAD if the code is out of range, 32 to 126");
        MateKeys x = new MateKeys();
        for (int code : EdgeKit.outside(32, 126)) {
            CHECK.due("append " + code, x.append(code), MateKeys.BAD);
        }
        int[] codes = {0, -1, 10, 13, 128, 255, 256 + 116, (1 << 16) + 116};
        for (int code : codes) {
            CHECK.due("append " + code, x.append(code), MateKeys.BAD);
        }
        CHECK.due("length", x.account(10), 0);
        for (int code = 32; code <= 126; code++) {
            x = new MateKeys();
            CHECK.due("append " + code, x.append(code), 1);
            CHECK.due("length", x.account(10), 1);
        }
        EDGES.leavesAll("append 31", EdgeKit::busyWithText, y -> y.append(31), MateKeys.BAD);
        EDGES.leavesAll("append 127", EdgeKit::busyWithText, y -> y.append(127), MateKeys.BAD);
    }

    private static String times(String part, int count) {
        return part.repeat(count);
    }

    private static MateKeys withText(String text) {
        MateKeys x = EdgeKit.busy();
        CheckKit.append(x, text);
        return x;
    }

    private static void appendUpToSeventy() {
        CHECK.about("Promise 25: returns the length of the text; BAD if the text has 70 characters");
        MateKeys x = new MateKeys();
        for (int length = 1; length <= 70; length++) {
            CHECK.due("append", x.append(length % 2 == 1 ? 't' : ';'), length);
            CHECK.due("length", x.account(10), length);
        }
        int[] codes = {'t', 32, 126, 31, 127, EdgeKit.LEAST, EdgeKit.MOST};
        for (int code : codes) {
            CHECK.due("append " + code + " to 70", x.append(code), MateKeys.BAD);
            CHECK.due("length", x.account(10), 70);
        }
        CHECK.due("read of 70", x.read(), -170);
        CHECK.due("append again", x.append('t'), 1);
        String seventy = times("t;", 34) + "tt";
        EDGES.leavesAll("append to 70", () -> withText(seventy), y -> y.append('t'), MateKeys.BAD);
    }

    // ---- promise 26

    private static void readIs(String board, String text, int due, String behind) {
        MateKeys x = CheckKit.board(board);
        CHECK.due("read " + text, CheckKit.read(x, text), due);
        CHECK.due("the board behind " + text, CheckKit.show(x), behind);
    }

    private static void readEmptyText() {
        CHECK.about("Promise 26: the empty text ends too early: -100");
        CHECK.due("a new object", new MateKeys().read(), -100);
        MateKeys x = EdgeKit.busyWithText();
        CHECK.due("a text", x.read(), 2);
        CHECK.due("the text is empty then", x.read(), -100);
        EDGES.leavesAll("an empty text", EdgeKit::busy, y -> y.read(), -100);
    }

    private static void readEachCommand() {
        CHECK.about("Promise 26 and Terms, text: each command, alone; returns 1");
        String empty = "...../...../...../...../.....";
        readIs(empty, "Kc3", 1, "...../...../..K../...../.....");
        readIs(empty, "Qc3", 1, "...../...../..Q../...../.....");
        readIs(empty, "Rc3", 1, "...../...../..R../...../.....");
        readIs(empty, "Bc3", 1, "...../...../..B../...../.....");
        readIs(empty, "Nc3", 1, "...../...../..N../...../.....");
        readIs(empty, "#c3", 1, "...../...../..#../...../.....");
        readIs(empty, "kc3", 1, "...../...../..k../...../.....");
        readIs(ONE_KEY, "-e1", 1, "k..../...../.K.../...../.....");
        readIs(ONE_KEY, "e1-e5", 1, "k...R/...../.K.../...../.....");
        readIs(ONE_KEY, "t", 1, "....k/..K../...../...../R....");
        readIs(ONE_KEY, "m", 1, "....k/...../...K./...../R....");
        readIs("k..../...../.K.../...../#...R", "s", 1, ONE_KEY);
        CHECK.about("Promise 26: each command behind another; returns the number of commands");
        readIs(empty, "ka5;Kb3;Re1;#a1;s;e1-e2;-e2;t;m", 9, "k..../..K../...../...../.....");
    }

    private static void readSquares() {
        CHECK.about("Promise 26 and Terms, text: squares from a1 to e5");
        for (int square = 0; square < 25; square++) {
            String name = "" + "abcde".charAt(square % 5) + "12345".charAt(square / 5);
            MateKeys x = new MateKeys();
            CHECK.due("read N" + name, CheckKit.read(x, "N" + name), 1);
            CHECK.due("at " + square, x.at(square), 5);
            CHECK.due("read -" + name, CheckKit.read(x, "-" + name), 1);
            CHECK.due("at " + square, x.at(square), 0);
            x.put(2, square);
            int to = square % 5 == 4 ? square - 1 : square + 1;
            String other = "" + "abcde".charAt(to % 5) + "12345".charAt(to / 5);
            CHECK.due("read of a move", CheckKit.read(x, name + "-" + other), 1);
            CHECK.due("at " + to, x.at(to), 2);
        }
    }

    private static void readMostCommands() {
        CHECK.about("Promise 26: the longest text that is right, 69 characters with 35 commands");
        MateKeys x = new MateKeys();
        x.put(6, 0);
        CHECK.due("read", CheckKit.read(x, times("m;", 34) + "t"), 35);
        CHECK.due("turned", x.account(9), 35);
        CHECK.due("the board", CheckKit.show(x), "#..../...../...../...../.....");
        CHECK.due("one change", x.account(11), 2);
        x = EdgeKit.oneKey();
        String text = times("e1-e2;e2-e1;", 5) + "e1-e2;t;m";
        CHECK.due("length", CheckKit.append(x, text), 69);
        CHECK.due("read", x.read(), 13);
        CHECK.due("moves", x.account(6), 11);
    }

    private static void fault(String text, int position) {
        MateKeys x = EdgeKit.oneKey();
        CHECK.due("read " + text, CheckKit.read(x, text), -100 - position);
        CHECK.due("the text behind it", x.account(10), 0);
        CHECK.due("the board behind it", CheckKit.show(x), ONE_KEY);
        CHECK.due("no reason behind it", x.refusal(0), MateKeys.NOTHING);
        CHECK.due("no change behind it", x.account(11), 3);
    }

    private static void faultOfFirstCharacter() {
        CHECK.about("Promise 26 and Terms, text: the first character with which no such text can continue");
        String first = "KQRBN#k-abcdetms";
        for (int code = 32; code <= 126; code++) {
            char sign = (char) code;
            boolean begins = first.indexOf(sign) >= 0;
            boolean alone = "tms".indexOf(sign) >= 0;
            if (!begins) {
                fault("" + sign, 0);
                fault("t;" + sign, 2);
                fault("Nc3;" + sign + "a1", 4);
            } else if (!alone) {
                fault("" + sign, 1);
                fault("m;" + sign, 3);
            }
        }
    }

    private static void faultWithinCommand() {
        CHECK.about("Promise 26 and Terms, text: such a character within a command");
        for (int code = 32; code <= 126; code++) {
            char sign = (char) code;
            boolean column = sign >= 'a' && sign <= 'e';
            boolean row = sign >= '1' && sign <= '5';
            fault("N" + sign, column ? 2 : 1);
            fault("-" + sign, column ? 2 : 1);
            fault("Na" + sign + "!", row ? 3 : 2);
            fault("-e" + sign + "!", row ? 3 : 2);
            fault("a" + sign, row ? 2 : 1);
            fault("e5" + sign, sign == '-' ? 3 : 2);
            fault("e5-" + sign, column ? 4 : 3);
            fault("e5-a" + sign + "!", row ? 5 : 4);
        }
    }

    private static void faultOfSeparators() {
        CHECK.about("Promise 26 and Terms, text: ; between two commands, and nothing else");
        for (int code = 32; code <= 126; code++) {
            char sign = (char) code;
            if (sign != ';') {
                fault("t" + sign, 1);
                fault("m" + sign + "t", 1);
                fault("s" + sign, 1);
                fault("Na1" + sign, 3);
                fault("-a1" + sign, 3);
                fault("a1-b1" + sign, 5);
            }
        }
        fault(";", 0);
        fault(";t", 0);
        fault("t;;t", 2);
        fault(" t", 0);
        fault("t ;m", 1);
    }

    private static void faultOfEarlyEnd() {
        CHECK.about("Promise 26 and Terms, text: its length if it ends too early");
        String[] early = {"", "K", "Ka", "k", "ke", "#", "#c", "-", "-b", "a", "a1", "a1-", "a1-b", "t;", "Na1;",
            "-a1;", "a1-b1;", "t;m;s;", "t;N", "t;Na", "m;-", "m;-a", "s;e", "s;e1", "s;e1-", "s;e1-e"};
        for (String text : early) {
            fault(text, text.length());
        }
    }

    private static void faultOfLongTexts() {
        CHECK.about("Promise 26: the fault position at the end of a text of 70 and 69 characters");
        fault(times("t;", 35), 70);
        fault(times("t;", 34) + "tt", 69);
        fault(times("t;", 34) + "tx", 69);
        fault(times("t;", 34) + "x", 68);
        fault(times("t;", 34) + "-", 69);
        fault(times("t;", 34) + "-a", 70);
        fault(times("t;", 33) + "Na1x", 69);
        fault(times("t;", 33) + "Na1;", 70);
        fault(times("x", 70), 0);
    }

    private static void faultAheadOfRefusal() {
        CHECK.about("Promise 26: -100 minus the fault position ahead of REFUSED");
        fault("Na5;x", 4);
        fault("-a1;-a1;", 8);
        fault("e1-d2;tt", 7);
    }

    private static void faultLeavesAll() {
        CHECK.about("Errors: a call that returns an error code leaves the state unchanged, read empties the text");
        EDGES.leavesAll("wrong at its end", EdgeKit::busy, x -> CheckKit.read(x, "t;m;#b1;"), -108);
        EDGES.leavesAll("wrong at its beginning", EdgeKit::busy, x -> CheckKit.read(x, "x"), -100);
        EDGES.leavesAll("wrong of an empty board", MateKeys::new, x -> CheckKit.read(x, "Na1;Na"), -106);
    }

    private static void readRefused(String text, int reason, int detail, int command) {
        EDGES.refuses(text, EdgeKit::oneKey, x -> CheckKit.read(x, text), reason, detail, command);
    }

    private static void readRefusedForEachReason() {
        CHECK.about("Promise 26: REFUSED if a command is refused, the first and the last");
        readRefused("Na5", 1, 7, 0);
        readRefused("t;m;Nc4", 1, 1, 2);
        readRefused("Ka1", 2, 11, 0);
        readRefused("-e1;m;ka1", 2, 24, 2);
        readRefused("#a1;#b1;#c1;#d1;#a2;#b2;#c2;#d2;#e2;#a3", 3, 12, 9);
        readRefused("-a1", 4, 0, 0);
        readRefused("-e1;-e1", 4, 4, 1);
        readRefused("e5-e4", 4, 24, 0);
        readRefused("t;m;e1-e2;e1-e2", 4, 4, 3);
        readRefused("e1-d2", 5, 3, 0);
        readRefused("b3-b4", 5, 1, 0);
        readRefused("m;e5-d5", 5, 7, 1);
        readRefused("#a1;a1-b1", 5, 6, 1);
        readRefused("s", 6, 3, 0);
        readRefused("#a1;s;s", 6, 3, 2);
        readRefused("e1-e5;s", 7, 1, 1);
        readRefused("-a5;s", 7, 0, 1);
        readRefused(times("t;", 33) + "-a3", 4, 10, 33);
    }

    private static void readAllOrNone() {
        CHECK.about("Promise 26: carries them out, all or none");
        EDGES.refuses("all but the last", EdgeKit::busy,
            x -> CheckKit.read(x, "t;m;#b1;-b1;s;s"), 6, 3, 5);
        EDGES.refuses("a move that takes, and then none", EdgeKit::busy,
            x -> CheckKit.read(x, "d1-a1;d1-c1"), 4, 3, 1);
        EDGES.refuses("a full board", EdgeKit::full, x -> CheckKit.read(x, "-a1;#a1;#e5"), 3, 12, 2);
    }

    private static void readIsOneChange() {
        CHECK.about("Changes: a successful read is one change; a refused or wrong one is none");
        MateKeys x = EdgeKit.oneKey();
        CheckKit.read(x, "t;t;t;t");
        CHECK.due("changes", x.account(11), 4);
        CheckKit.read(x, "t;t;t;Ka1");
        CheckKit.read(x, "t;t;t;");
        CHECK.due("changes", x.account(11), 4);
        CHECK.due("undo of all four", x.undo(), 3);
        CHECK.due("turned", x.account(9), 0);
    }

    private static void readEmptiesTheText() {
        CHECK.about("Errors: read empties the text, whatever it returns");
        String[] texts = {"t", "t;m", "x", "t;", "Ka1", "-a1", ""};
        for (String text : texts) {
            MateKeys x = EdgeKit.oneKey();
            CheckKit.read(x, text);
            CHECK.due("length behind " + text, x.account(10), 0);
            CHECK.due("append behind " + text, x.append('t'), 1);
            CHECK.due("read behind " + text, x.read(), 1);
        }
    }

    // ---- promise 27

    private static void refusalNoWhat() {
        CHECK.about("Promise 27: BAD if there is no such what, 0 to 2, ahead of NOTHING");
        MateKeys refused = EdgeKit.busy();
        for (int what : EdgeKit.outside(0, 2)) {
            CHECK.due("refusal " + what, new MateKeys().refusal(what), MateKeys.BAD);
            CHECK.due("behind a refusal: " + what, refused.refusal(what), MateKeys.BAD);
        }
        EDGES.leavesAll("refusal -1", EdgeKit::busyWithText, x -> x.refusal(-1), MateKeys.BAD);
        EDGES.leavesAll("refusal 3", EdgeKit::busyWithText, x -> x.refusal(3), MateKeys.BAD);
        EDGES.leavesAll("refusal 1", EdgeKit::busyWithText, x -> x.refusal(1), 1);
    }

    private static void refusalOfNothing() {
        CHECK.about("Promise 27: NOTHING if nothing was refused");
        MateKeys x = CheckKit.board(ONE_KEY);
        x.put(9, 0);
        x.put(1, 25);
        x.lift(-1);
        x.play(4, 25);
        x.append(7);
        CheckKit.read(x, "Ka");
        x.undo();
        x.manOf(0, 9);
        for (int what = 0; what < 3; what++) {
            CHECK.due("refusal " + what, x.refusal(what), MateKeys.NOTHING);
        }
        EDGES.leavesAll("refusal 0", EdgeKit::oneKey, y -> y.refusal(0), MateKeys.NOTHING);
    }

    private static void refusalStays() {
        CHECK.about("Promise 27: about what was refused last; other errors and successful calls leave it");
        MateKeys x = EdgeKit.oneKey();
        CHECK.refused(x, "lift", x.lift(0), 4, 0);
        x.put(6, 0);
        x.put(8, 1);
        x.put(1, 25);
        x.lift(25);
        x.undo();
        x.save();
        x.restore();
        x.undo();
        CheckKit.read(x, "x");
        CheckKit.read(x, "t;t");
        CHECK.refused(x, "still", MateKeys.REFUSED, 4, 0);
        CHECK.refused(x, "the next one", x.put(1, 0), 2, 13);
        CHECK.refused(x, "the one behind it", x.thrift(), 6, 3);
    }

    private static void refusalCommand() {
        CHECK.about("Promise 27: 2 the number of the command in its text, from 0, NOTHING for another call");
        MateKeys x = EdgeKit.oneKey();
        CHECK.refused(x, "the first", CheckKit.read(x, "Ka1"), 2, 11, 0);
        CHECK.refused(x, "put", x.put(1, 0), 2, 11, MateKeys.NOTHING);
        CHECK.refused(x, "the second", CheckKit.read(x, "t;-b1"), 4, 1, 1);
        CHECK.refused(x, "lift", x.lift(0), 4, 0, MateKeys.NOTHING);
        CHECK.refused(x, "the last of 34", CheckKit.read(x, times("m;", 33) + "-c1"), 4, 2, 33);
        CHECK.refused(x, "play", x.play(0, 1), 4, 0, MateKeys.NOTHING);
        CheckKit.read(x, "t;t;t;t");
        CHECK.refused(x, "behind a read that succeeds", x.thrift(), 6, 3, MateKeys.NOTHING);
        CHECK.refused(x, "the fifth", CheckKit.read(x, "t;t;t;t;s"), 6, 3, 4);
        CheckKit.read(x, "t;x");
        CHECK.refused(x, "behind a wrong text", MateKeys.REFUSED, 6, 3, 4);
    }

    // ---- promise 28

    private static void accountNoWhat() {
        CHECK.about("Promise 28: BAD if there is no such what, 0 to 11");
        MateKeys busy = EdgeKit.busyWithText();
        for (int what : EdgeKit.outside(0, 11)) {
            CHECK.due("account " + what, new MateKeys().account(what), MateKeys.BAD);
            CHECK.due("busy: account " + what, busy.account(what), MateKeys.BAD);
        }
        EDGES.leavesAll("account -1", EdgeKit::busyWithText, x -> x.account(-1), MateKeys.BAD);
        EDGES.leavesAll("account 12", EdgeKit::busyWithText, x -> x.account(12), MateKeys.BAD);
        EDGES.leavesAll("account 4", EdgeKit::full, x -> x.account(4), countMoves(EdgeKit.full()));
        EDGES.leavesAll("account 3", EdgeKit::kingless, x -> x.account(3), MateKeys.NOTHING);
    }

    /** How many moves there are, place by place. */
    private static int countMoves(MateKeys x) {
        int count = 0;
        while (count < 200 && x.move(count) >= 0) {
            count++;
        }
        return count;
    }

    private static void accountCountsMen() {
        CHECK.about("Promise 28: 0 the men and stones; 1 the white men; 2 the stones");
        for (int kind = 1; kind <= 7; kind++) {
            MateKeys x = new MateKeys();
            x.put(kind, 12);
            CHECK.due("men and stones: " + kind, x.account(0), 1);
            CHECK.due("white men: " + kind, x.account(1), kind < 6 ? 1 : 0);
            CHECK.due("stones: " + kind, x.account(2), kind == 6 ? 1 : 0);
        }
        MateKeys x = EdgeKit.full();
        CHECK.due("men and stones", x.account(0), 12);
        CHECK.due("white men", x.account(1), 2);
        CHECK.due("stones", x.account(2), 9);
        x = CheckKit.board("Q...R/#...B/##N##/#..../k...K");
        CHECK.due("men and stones", x.account(0), 12);
        CHECK.due("white men", x.account(1), 5);
        CHECK.due("stones", x.account(2), 6);
    }

    private static void accountBlackKing() {
        CHECK.about("Promise 28: 3 the square of the black king, NOTHING without one");
        CHECK.due("an empty board", new MateKeys().account(3), MateKeys.NOTHING);
        CHECK.due("no black king", EdgeKit.kingless().account(3), MateKeys.NOTHING);
        for (int square = 0; square < 25; square++) {
            MateKeys x = new MateKeys();
            x.put(7, square);
            CHECK.due("on " + square, x.account(3), square);
            x.lift(square);
            CHECK.due("lifted from " + square, x.account(3), MateKeys.NOTHING);
        }
    }

    private static void accountMovesAndSquares() {
        CHECK.about("Promise 28: 4 all moves of White; 5 the squares that White attacks; none and most");
        MateKeys x = CheckKit.board("#..../.k.../...../...../....#");
        CHECK.due("no moves", x.account(4), 0);
        CHECK.due("no squares", x.account(5), 0);
        x = CheckKit.board("Q...Q/...../..Q../...../Q...Q");
        CHECK.due("all squares", x.account(5), 25);
        CHECK.due("moves", x.account(4), countMoves(x));
        x = CheckKit.board("...../...../...../NN.../RN...");
        CHECK.due("a rook without a move, and three knights", x.account(4), 10);
        CHECK.due("where not fit", EdgeKit.notFit().account(4), countMoves(EdgeKit.notFit()));
        // An attacked square counts once, by however many men, and the black king attacks none.
        x = CheckKit.board("....k/...../...../R..../.R...");
        CHECK.due("squares attacked twice", x.account(5), 14);
    }

    private static void accountsSoFar() {
        CHECK.about("Promise 28: 6 moves played, 7 stones taken, 8 spared, 9 turned or mirrored so far");
        MateKeys x = CheckKit.board("k..../...../.K.../#...#/#...R");
        soFar("puts", x, 0, 0, 0, 0);
        x.play(4, 9);
        soFar("a stone taken", x, 1, 1, 0, 0);
        x.play(9, 4);
        soFar("a move", x, 2, 1, 0, 0);
        x.thrift();
        soFar("two spared", x, 2, 1, 2, 0);
        x.turn();
        soFar("turned", x, 2, 1, 2, 1);
        x.mirror();
        soFar("mirrored", x, 2, 1, 2, 2);
        x.put(6, 0);
        x.lift(0);
        soFar("a stone lifted", x, 2, 1, 2, 2);
        x.thrift();
        x.play(0, 24);
        soFar("refused", x, 2, 1, 2, 2);
        CHECK.due("read", CheckKit.read(x, "m;t;t;t;#a1;s"), 6);
        soFar("a text", x, 2, 1, 3, 6);
        x.undo();
        soFar("undone", x, 2, 1, 2, 2);
    }

    private static void soFar(String when, MateKeys x, int played, int taken, int spared, int turned) {
        CHECK.due(when + ": played", x.account(6), played);
        CHECK.due(when + ": taken", x.account(7), taken);
        CHECK.due(when + ": spared", x.account(8), spared);
        CHECK.due(when + ": turned", x.account(9), turned);
    }

    private static void accountTextAndChanges() {
        CHECK.about("Promise 28: 10 the characters of the text, 0 to 70");
        MateKeys x = new MateKeys();
        for (int length = 0; length <= 72; length++) {
            CHECK.due("characters", x.account(10), Math.min(length, 70));
            x.append('x');
        }
        CHECK.about("Promise 28: 11 the changes that can be undone, 0 to 8");
        for (int changes = 0; changes <= 12; changes++) {
            CHECK.due("changes", x.account(11), Math.min(changes, 8));
            x.turn();
        }
    }

    // ---- promises 29 and 30

    private static void isWellOfAll() {
        CHECK.about("Promise 29: 1 if it is so, of an empty and a full board, fit or not");
        MateKeys[] boards = {
            new MateKeys(), EdgeKit.full(), EdgeKit.oneKey(), EdgeKit.notFit(), EdgeKit.kingless(),
            EdgeKit.busyWithText(), CheckKit.board(".N.N./NQQQN/.Qk../N...N/.N.N."),
            CheckKit.board("..k../...../...../...../....."), CheckKit.board(DULL),
            CheckKit.board("k..../...Q./.K.../...../....R"), CheckKit.board("k.B.R/...../.K.../...../.....")
        };
        for (int i = 0; i < boards.length; i++) {
            CHECK.due("board " + i, boards[i].isWell(), 1);
        }
        EDGES.leavesAll("isWell", EdgeKit::full, x -> x.isWell(), 1);
        EDGES.leavesAll("isWell", EdgeKit::busyWithText, x -> x.isWell(), 1);
    }

    private static void shareOfNoneAndAll() {
        CHECK.about("Promise 30: the bits, as by Float.floatToIntBits, of none and of all squares");
        CHECK.due("none", new MateKeys().share(), 0);
        CHECK.due("none but stones and the black king",
            CheckKit.board("#k.../...../...../...../.....").share(), 0);
        CHECK.due("all", CheckKit.board("Q...Q/...../..Q../...../Q...Q").share(), 0x3f800000);
        CHECK.due("one", CheckKit.board("...../...../...../##.../B#...").share(),
            Float.floatToIntBits(1f / 25f));
        CHECK.about("Promise 30: of each number of squares");
        boolean[] seen = new boolean[26];
        int[] kinds = {5, 1, 4, 3, 2, 5, 4, 2, 3, 5, 2, 2};
        for (int shift = 0; shift < 25; shift++) {
            MateKeys x = new MateKeys();
            for (int i = 0; i < 12; i++) {
                x.put(kinds[(i + shift) % 12], (i * 7 + shift) % 25);
                shareOf(x, seen);
            }
        }
        shareOf(CheckKit.board("...../...../...../##.../B#..."), seen);
        shareOf(CheckKit.board("K..../...../...../...../..N.."), seen);
        shareOf(CheckKit.board("Q...Q/...../..Q../...../Q...Q"), seen);
        for (int squares = 1; squares <= 25; squares++) {
            CHECK.due("seen: " + squares, seen[squares] ? 1 : 0, 1);
        }
        EDGES.leavesAll("share", EdgeKit::full, x -> x.share(), EdgeKit.full().share());
    }

    private static void shareOf(MateKeys x, boolean[] seen) {
        int squares = x.account(5);
        seen[squares] = true;
        CHECK.due("share of " + squares, x.share(), Float.floatToIntBits((float) squares / (float) 25));
    }
}
