/** Promises 22 to 30: show, tell, sign, append, read, refusal, account, isWell, share. */
public final class LinesTest {
    private static final CheckKit CHECK = new CheckKit();
    private static final String ONE_KEY = "k..../...../.K.../...../....R";

    public static void main(String[] args) {
        show();
        tell();
        tellErrors();
        append();
        readCommands();
        readNothingOrAll();
        faults();
        refusedCommands();
        longTexts();
        refusal();
        account();
        isWell();
        share();
        CHECK.finish();
    }

    private static void show() {
        MateKeys x = new MateKeys();
        CHECK.due("length", x.show(), 29);
        CHECK.due("empty", CheckKit.line(x), "...../...../...../...../.....");
        String line = "K...k/.Q.../..R#./.B.../N...#";
        x = CheckKit.board(line);
        CHECK.due("length", x.show(), 29);
        CHECK.due("men", CheckKit.line(x), line);
        CHECK.due("sign -1", x.sign(-1), MateKeys.NONE);
        CHECK.due("sign 29", x.sign(29), MateKeys.NONE);
        CHECK.due("the most", x.sign(Integer.MAX_VALUE), MateKeys.NONE);
        x.lift(0);
        CHECK.due("the line stays", CheckKit.line(x), line);
    }

    private static void tell() {
        MateKeys x = CheckKit.board(ONE_KEY);
        CHECK.due("a key", CheckKit.tell(x, "e1", "e5"), "Re1-e5#");
        CHECK.due("a try", CheckKit.tell(x, "e1", "a1"), "Re1-a1+");
        CHECK.due("another", CheckKit.tell(x, "b3", "c4"), "Kb3-c4");
        x.put(6, 24);
        CHECK.due("a stone", CheckKit.tell(x, "e1", "e5"), "Re1xe5#");
        x = CheckKit.board(".Q.../...../...../...../k....");
        CHECK.due("a dull move", CheckKit.tell(x, "b5", "b3"), "Qb5-b3=");
        x = CheckKit.board("....k/...../.#.../...../N.B..");
        CHECK.due("a knight", CheckKit.tell(x, "a1", "b3"), "Na1xb3");
        CHECK.due("a bishop", CheckKit.tell(x, "c1", "a3"), "Bc1-a3");
        x.show();
        CHECK.due("a shorter line", CheckKit.tell(x, "c1", "d2"), "Bc1-d2");
        CHECK.due("its end", x.sign(6), MateKeys.NONE);
    }

    private static void tellErrors() {
        MateKeys x = CheckKit.board("k...R/...../.K.../...../.....");
        String line = CheckKit.show(x);
        CHECK.due("from -1", x.tell(-1, 0), MateKeys.NONE);
        CHECK.due("to 25", x.tell(24, 25), MateKeys.NONE);
        CHECK.due("no such move", x.tell(24, 18), MateKeys.NONE);
        CHECK.due("nothing there", x.tell(0, 1), MateKeys.NONE);
        CHECK.due("not fit", x.tell(24, 23), MateKeys.NOTHING);
        CHECK.due("the line stays", CheckKit.line(x), line);
    }

    private static void append() {
        MateKeys x = new MateKeys();
        int[] codes = {31, 127, -1, 0, 128, 256 + 65, Integer.MIN_VALUE, Integer.MAX_VALUE};
        for (int code : codes) {
            CHECK.due("append " + code, x.append(code), MateKeys.BAD);
        }
        CHECK.due("append 32", x.append(32), 1);
        CHECK.due("append 126", x.append(126), 2);
        for (int length = 3; length <= 70; length++) {
            CHECK.due("append", x.append('t'), length);
        }
        CHECK.due("append to 70", x.append('t'), MateKeys.BAD);
        CHECK.due("length", x.account(10), 70);
        CHECK.due("read it", x.read(), -100);
        CHECK.due("length", x.account(10), 0);
    }

    private static void readCommands() {
        MateKeys x = new MateKeys();
        CHECK.due("puts", CheckKit.read(x, "ka5;Kb3;Qc1;Re2;Bd4;Na2;#e1"), 7);
        CHECK.due("board", CheckKit.show(x), "k..../...B./.K.../N...R/..Q.#");
        CHECK.due("changes", x.account(11), 1);
        CHECK.due("lifts", CheckKit.read(x, "-d4;-c1"), 2);
        CHECK.due("board", CheckKit.show(x), "k..../...../.K.../N...R/....#");
        CHECK.due("a play", CheckKit.read(x, "e2-e1"), 1);
        CHECK.due("board", CheckKit.show(x), "k..../...../.K.../N..../....R");
        CHECK.due("played", x.account(6), 1);
        CHECK.due("taken", x.account(7), 1);
        CHECK.due("turn and mirror", CheckKit.read(x, "t;m"), 2);
        CHECK.due("board", CheckKit.show(x), "k..N./..K../...../...../....R");
        CHECK.due("turned", x.account(9), 2);
        CHECK.due("back", CheckKit.read(x, "m;t;t;t;s"), 5);
        CHECK.due("board", CheckKit.show(x), ONE_KEY);
        CHECK.due("spared", x.account(8), 1);
        CHECK.due("changes", x.account(11), 5);
        CHECK.due("line stays", CheckKit.line(x), ONE_KEY);
    }

    private static void readNothingOrAll() {
        MateKeys x = CheckKit.board(ONE_KEY);
        x.play(11, 17);
        x.play(17, 11);
        String state = CheckKit.state(x);
        append(x, "e1-e2;#e1;e2-e1;t;m;s;-a1", 25);
        // Up to the thrift all can be carried out, and a1 is empty then.
        CHECK.refused(x, "refused", x.read(), 6, 3, 5);
        CHECK.due("state", CheckKit.state(x), state);
        CHECK.refused(x, "a full board", CheckKit.read(x, "#a1;#b1;#c1;#d1;#a2;#b2;#c2;#d2;#e2;#a3"), 3, 12, 9);
        CHECK.due("state", CheckKit.state(x), state);
        CHECK.refused(x, "the first", CheckKit.read(x, "Ka1"), 2, 11, 0);
        CHECK.due("state", CheckKit.state(x), state);
        CHECK.due("wrong", CheckKit.read(x, "t;m;x"), -104);
        CHECK.due("state", CheckKit.state(x), state);
        CHECK.refused(x, "not by a wrong text", MateKeys.REFUSED, 2, 11, 0);
    }

    private static void append(MateKeys x, String text, int length) {
        CHECK.due("append " + text, CheckKit.append(x, text), length);
        CHECK.due("length of " + text, x.account(10), length);
    }

    private static void fault(String text, int position) {
        MateKeys x = CheckKit.board(ONE_KEY);
        String state = CheckKit.state(x);
        CHECK.due("read " + text, CheckKit.read(x, text), -100 - position);
        CHECK.due("state behind " + text, CheckKit.state(x), state);
        CHECK.due("no reason behind " + text, x.refusal(0), MateKeys.NOTHING);
    }

    private static void faults() {
        fault("", 0);
        fault(";", 0);
        fault(" ", 0);
        fault(".a1", 0);
        fault("f1", 0);
        fault("A1", 0);
        fault("T", 0);
        fault("q", 0);
        fault("1", 0);
        fault("K", 1);
        fault("KK", 1);
        fault("K1", 1);
        fault("Kf1", 1);
        fault("K-", 1);
        fault("#a", 2);
        fault("ka0", 2);
        fault("ka6", 2);
        fault("kab", 2);
        fault("ka55", 3);
        fault("ka5 ", 3);
        fault("ka5-a4", 3);
        fault("-", 1);
        fault("-1", 1);
        fault("--a1", 1);
        fault("-a", 2);
        fault("-a6", 2);
        fault("-a1-", 3);
        fault("a", 1);
        fault("a-", 1);
        fault("ab1", 1);
        fault("a1", 2);
        fault("a1x", 2);
        fault("a1;", 2);
        fault("a1-", 3);
        fault("a1--", 3);
        fault("a1-K", 3);
        fault("a1-b", 4);
        fault("a1-b0", 4);
        fault("a1-b1-", 5);
        fault("a1-b1c1", 5);
        fault("tt", 1);
        fault("t;", 2);
        fault("t;;t", 2);
        fault("t; m", 2);
        fault("mt", 1);
        fault("s1", 1);
        fault("t;m;s;", 6);
        // A text is looked at as a whole ahead of its first command.
        fault("a1-b1;x", 6);
    }

    private static void refusedCommands() {
        MateKeys x = CheckKit.board(ONE_KEY);
        CHECK.refused(x, "not empty", CheckKit.read(x, "t;Na1"), 1, 3, 1);
        CHECK.refused(x, "second king", CheckKit.read(x, "-e1;t;kb1"), 2, 24, 2);
        CHECK.refused(x, "nothing to lift", CheckKit.read(x, "-e1;-e1"), 4, 4, 1);
        CHECK.refused(x, "nothing to play", CheckKit.read(x, "m;e1-e5"), 4, 4, 1);
        CHECK.refused(x, "no such move", CheckKit.read(x, "e1-d2"), 5, 3, 0);
        CHECK.refused(x, "not fit", CheckKit.read(x, "e1-e5;s"), 7, 1, 1);
        CHECK.refused(x, "no black king", CheckKit.read(x, "-a5;s"), 7, 0, 1);
        CHECK.refused(x, "nothing to spare", CheckKit.read(x, "#a1;s;s"), 6, 3, 2);
        CHECK.refused(x, "another call", x.lift(0), 4, 0);
    }

    private static void longTexts() {
        MateKeys x = new MateKeys();
        StringBuilder text = new StringBuilder("t");
        for (int i = 1; i < 35; i++) {
            text.append(";m");
        }
        CHECK.due("35 commands", CheckKit.read(x, text.toString()), 35);
        CHECK.due("turned", x.account(9), 35);
        CHECK.due("too early", CheckKit.read(x, text.append(';').toString()), -170);
        CHECK.due("turned", x.account(9), 35);
        String late = text.substring(0, 66) + "-a1";
        CHECK.refused(x, "the last", CheckKit.read(x, late), 4, 0, 33);
        CHECK.due("turned", x.account(9), 35);
    }

    private static void refusal() {
        MateKeys x = new MateKeys();
        for (int what = 0; what < 3; what++) {
            CHECK.due("nothing refused", x.refusal(what), MateKeys.NOTHING);
        }
        CHECK.due("refusal 3", x.refusal(3), MateKeys.BAD);
        CHECK.due("refusal -1", x.refusal(-1), MateKeys.BAD);
        CHECK.refused(x, "lift", x.lift(7), 4, 7);
        // Neither calls that succeed nor other errors change what is told.
        x.put(3, 7);
        x.undo();
        x.save();
        x.restore();
        x.put(9, 9);
        x.thrift();
        CHECK.refused(x, "thrift", MateKeys.REFUSED, 7, 0);
        CHECK.due("refusal 3", x.refusal(3), MateKeys.BAD);
        CHECK.due("the least", x.refusal(Integer.MIN_VALUE), MateKeys.BAD);
    }

    private static void accounts(String when, MateKeys x, int... due) {
        for (int what = 0; what < 12; what++) {
            CHECK.due(when + ": account " + what, x.account(what), due[what]);
        }
        CHECK.due("account 12", x.account(12), MateKeys.BAD);
        CHECK.due("account -1", x.account(-1), MateKeys.BAD);
    }

    private static void account() {
        MateKeys x = CheckKit.board("k..../...../.K.../...../#..#R");
        // Attacked: eight by the king, and d1, e2, e3, e4, e5; the king has six moves, the rook five.
        accounts("puts", x, 5, 2, 2, 20, 11, 13, 0, 0, 0, 0, 0, 5);
        x.play(4, 3);
        x.thrift();
        x.turn();
        x.append(65);
        x.append(66);
        // The rook stood on d1, with the first stone on a1 spared; turned it is on a2.
        accounts("changes", x, 3, 2, 0, 24, 14, 16, 1, 1, 1, 1, 2, 8);
        x.lift(24);
        accounts("no black king", x, 2, 2, 0, MateKeys.NOTHING, 16, 16, 1, 1, 1, 1, 2, 8);
        x = CheckKit.board("R..../..N../.#.../...../k..#.");
        // The rook attacks eight squares, a1 among them, the knight a5 and five more, a3 and e5
        // a second time.
        accounts("a king on a1", x, 5, 2, 2, 0, 12, 12, 0, 0, 0, 0, 0, 5);
        accounts("empty", new MateKeys(), 0, 0, 0, MateKeys.NOTHING, 0, 0, 0, 0, 0, 0, 0, 0);
    }

    private static void isWell() {
        String[] boards = {
            "...../...../...../...../.....", ONE_KEY, "k...R/...../.K.../...../.....",
            "KQRBN/QRB#N/k.#.R/...../.....", "k..../..QQ./.K.Q./...../....R"
        };
        for (String board : boards) {
            CHECK.due("isWell of " + board, CheckKit.board(board).isWell(), 1);
        }
    }

    private static void shareOf(String board, int squares) {
        MateKeys x = CheckKit.board(board);
        CHECK.due("attacked of " + board, x.account(5), squares);
        CHECK.due("share of " + board, x.share(), Float.floatToIntBits((float) squares / (float) 25));
    }

    private static void share() {
        CHECK.due("share of none", new MateKeys().share(), 0);
        // Each number of squares is reached as the men come on to the board.
        boolean[] seen = new boolean[26];
        int[] kinds = {5, 1, 4, 3, 2, 5, 4, 2, 3, 5, 2, 2};
        for (int shift = 0; shift < 25; shift++) {
            MateKeys x = new MateKeys();
            for (int i = 0; i < 12; i++) {
                x.put(kinds[i], (i * 7 + shift) % 25);
                int squares = x.account(5);
                seen[squares] = true;
                CHECK.due("share of " + squares, x.share(), Float.floatToIntBits((float) squares / (float) 25));
            }
        }
        shareOf("...../...../...../#..../N#...", 2);
        shareOf("...../...../...../##.../B#...", 1);
        shareOf("...../...../...../...../K....", 3);
        shareOf("Q...Q/...../..Q../...../Q...Q", 25);
        seen[0] = true;
        seen[1] = true;
        int numbers = 0;
        for (boolean one : seen) {
            numbers += one ? 1 : 0;
        }
        CHECK.due("most numbers were seen", numbers > 20 ? 1 : 0, 1);
    }
}
