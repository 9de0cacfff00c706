import java.util.LinkedHashMap;
import java.util.Map;

/**
 * What the tests of the edges share: numbers next to those that are taken and far from them,
 * objects to begin with, and the comparison of everything that an object can be asked.
 */
final class EdgeKit {
    static final int LEAST = Integer.MIN_VALUE;
    static final int MOST = Integer.MAX_VALUE;

    /**
     * No squares: the ones next to a1 and to e5, some that would be squares behind a shift or in a
     * smaller type, and the ends of the ints.
     */
    static final int[] NO_SQUARES = {
        -1, -2, -5, -24, -25, -32, -100, 25, 26, 29, 30, 31, 32, 36, 44, 56, 64, 99, 100, 128, 256,
        268, 1 << 16, (1 << 16) + 12, 1 << 25, LEAST, LEAST + 1, LEAST + 12, MOST - 1, MOST
    };

    /** The squares that are taken, at both ends and amid them. */
    static final int[] SOME_SQUARES = {0, 1, 4, 5, 12, 20, 23, 24};

    /** Makes an object, always in the same way. */
    interface Maker {
        MateKeys make();
    }

    /** One call, or some of which the last one's answer counts. */
    interface Call {
        int on(MateKeys x);
    }

    private final CheckKit check;

    EdgeKit(CheckKit check) {
        this.check = check;
    }

    // ---- numbers

    /** The numbers that are next to first and last on their outer sides, and ones far from them. */
    static int[] outside(int first, int last) {
        return new int[] {
            first - 1, first - 2, last + 1, last + 2, last + 256, last + (1 << 16), LEAST, LEAST + 1,
            MOST - 1, MOST
        };
    }

    // ---- objects to begin with

    /** The black king on a5, with one key alone: Re1-e5#. */
    static MateKeys oneKey() {
        return CheckKit.board("k..../...../.K.../...../....R");
    }

    /** No white man's moves are mates, since the black king is attacked already. */
    static MateKeys notFit() {
        MateKeys x = CheckKit.board("k...R/...../.K.../...../#....");
        x.show();
        return x;
    }

    static MateKeys kingless() {
        return CheckKit.board("..#../...../.K.../...../R...B");
    }

    /** Twelve men and stones, with one key alone and stones to spare. */
    static MateKeys full() {
        return CheckKit.board("k..../...../#K.../####./####R");
    }

    /**
     * With all that can be kept: a line, a refusal, a snapshot of another board, eight changes to
     * undo, and moves, stones taken and spared, and turns to count.
     */
    static MateKeys busy() {
        MateKeys x = CheckKit.board("k..../...../.K.../#...#/#...R");
        x.play(4, 9);
        x.thrift();
        x.put(6, 24);
        x.turn();
        x.mirror();
        x.save();
        x.put(5, 24);
        x.show();
        x.lift(1);
        return x;
    }

    /** The same with a text that can be read. */
    static MateKeys busyWithText() {
        MateKeys x = busy();
        CheckKit.append(x, "m;t");
        return x;
    }

    // ---- everything that an object can be asked

    /** That the call answers as is due, and that all others answer as without it. */
    void leavesAll(String call, Maker maker, Call made, int due) {
        check.due(call, made.on(maker.make()), due);
        compareAnswers(call, maker, made, "");
    }

    /** The same of a call that writes the line. */
    void leavesAllButLine(String call, Maker maker, Call made, int due) {
        check.due(call, made.on(maker.make()), due);
        compareAnswers(call, maker, made, "sign");
    }

    /** That the call is refused for this reason, and that all else answers as without it. */
    void refuses(String call, Maker maker, Call made, int reason, int detail, int command) {
        MateKeys x = maker.make();
        check.refused(x, call, made.on(x), reason, detail, command);
        compareAnswers(call, maker, made, "refusal");
    }

    void refuses(String call, Maker maker, Call made, int reason, int detail) {
        refuses(call, maker, made, reason, detail, MateKeys.NOTHING);
    }

    private void compareAnswers(String call, Maker maker, Call made, String but) {
        Map<String, Integer> before = answers(maker);
        Map<String, Integer> behind = answers(() -> {
            MateKeys x = maker.make();
            made.on(x);
            return x;
        });
        if (!but.isEmpty()) {
            before.keySet().removeIf(name -> name.startsWith(but));
            behind.keySet().removeIf(name -> name.startsWith(but));
        }
        check.due(call + ": number of answers behind it", behind.size(), before.size());
        for (Map.Entry<String, Integer> one : before.entrySet()) {
            int answer = behind.getOrDefault(one.getKey(), Integer.MIN_VALUE);
            check.due(call + ", and then " + one.getKey(), answer, one.getValue());
        }
    }

    /**
     * The answers to everything that an object can be asked, by the calls. Each part asks an object
     * of its own, since none is used for more than 512 calls.
     */
    static Map<String, Integer> answers(Maker maker) {
        Map<String, Integer> answers = new LinkedHashMap<>();
        askSquares(maker.make(), answers);
        askMoves(maker.make(), answers);
        askProblems(maker.make(), answers);
        askWould(maker.make(), answers);
        askLines(maker.make(), answers);
        askText(maker.make(), answers);
        askUndo(maker.make(), answers);
        askRestore(maker.make(), answers);
        return answers;
    }

    private static void askSquares(MateKeys x, Map<String, Integer> answers) {
        for (int square = 0; square < 25; square++) {
            answers.put("at " + square, x.at(square));
            answers.put("attackers " + square, x.attackers(square));
            answers.put("attackersAgain " + square, x.attackersAgain(square));
            for (int what = 0; what < 4; what++) {
                answers.put("manOf " + square + " " + what, x.manOf(square, what));
            }
        }
    }

    private static void askMoves(MateKeys x, Map<String, Integer> answers) {
        int count = x.account(4);
        for (int place = 0; place <= count && place < 120; place++) {
            int move = x.move(place);
            answers.put("move " + place, move);
            answers.put("kind of " + move, x.kind(move / 100, move % 100));
            answers.put("refutation of " + move, x.refutation(move / 100, move % 100));
        }
    }

    private static void askProblems(MateKeys x, Map<String, Integer> answers) {
        answers.put("isFit", x.isFit());
        answers.put("escapes", x.escapes());
        answers.put("duals", x.duals());
        answers.put("isWell", x.isWell());
        answers.put("share", x.share());
        for (int number = -1; number <= 12; number++) {
            answers.put("key " + number, x.key(number));
            answers.put("ranked " + number, x.ranked(number));
            answers.put("many " + number, x.many(number));
            answers.put("account " + number, x.account(number));
            answers.put("refusal " + number, x.refusal(number));
        }
    }

    private static void askWould(MateKeys x, Map<String, Integer> answers) {
        for (int kind = 0; kind < 7; kind++) {
            for (int square = 0; square < 25; square++) {
                answers.put("would " + kind + " " + square, x.would(kind, square));
            }
        }
    }

    private static void askLines(MateKeys x, Map<String, Integer> answers) {
        askSigns("sign", x, answers);
        answers.put("show", x.show());
        askSigns("shown sign", x, answers);
        int move = x.move(0);
        answers.put("tell", x.tell(move / 100, move % 100));
        askSigns("told sign", x, answers);
    }

    private static void askSigns(String name, MateKeys x, Map<String, Integer> answers) {
        for (int index = -1; index < 31; index++) {
            answers.put(name + " " + index, x.sign(index));
        }
    }

    private static void askText(MateKeys x, Map<String, Integer> answers) {
        answers.put("text's length", x.account(10));
        answers.put("append of a blank", x.append(32));
        answers.put("read with a blank", x.read());
        answers.put("read", CheckKit.read(x, "t;m"));
        askBoard("read board", x, answers);
    }

    private static void askUndo(MateKeys x, Map<String, Integer> answers) {
        for (int step = 0; step < 9; step++) {
            answers.put("undo " + step, x.undo());
            askBoard("undo " + step, x, answers);
        }
    }

    private static void askRestore(MateKeys x, Map<String, Integer> answers) {
        answers.put("restore", x.restore());
        askBoard("restore", x, answers);
        answers.put("undo behind restore", x.undo());
    }

    /** All that changes can change, as it stands behind some call. */
    static void askBoard(String behind, MateKeys x, Map<String, Integer> answers) {
        for (int square = 0; square < 25; square++) {
            answers.put("behind " + behind + ": at " + square, x.at(square));
        }
        for (int what = 6; what <= 11; what++) {
            answers.put("behind " + behind + ": account " + what, x.account(what));
        }
    }
}
