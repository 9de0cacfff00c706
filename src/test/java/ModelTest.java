/** Long mixed runs of calls, each compared with the model of ModelKit. */
public final class ModelTest {
    private static final int RUNS = 700;
    private static final int CALLS = 512;
    private static final String LETTERS = "KQRBN#k";
    private static final String SIGNS = "KQRBN#kabcde12345-;tms .x";
    private static final String[] QUESTIONS = {
        "at", "attackers", "attackersAgain", "manOf", "move", "escapes", "isFit", "key", "kind",
        "refutation", "many", "duals", "would", "ranked", "show", "tell", "sign", "refusal",
        "account", "isWell", "share"
    };
    /** Positions with keys, tries and men to spare, so that runs meet more than chance gives. */
    private static final String[] STARTS = {
        "", "", "", "ka5;Kb3;Re1", "ka5;Kb3;Rd1;Re1;#d3;Na1", "ka1;Qb5;#e3", "ke5;Kc4;Qd1;Bb1;#e4",
        "ka5;#b5;#b4;#a4;Nc3;Rd1", "kc5;Kc3;Rb1;Rd1;Qe2;#a4", "ke1;Kd3;Qa2;Nb4;#e3;#a5;Bc5",
        "ka3;Kc3;Ra5;Re2;#b1;Nd4;#e5", "ka5;Ra1;#a4;Kb3;Re1;Be2",
        // Twelve, the most that there are: would tells of a thirteenth.
        "ke1;#d1;#e2;Rd2;Ka3;Qa5;Qa1;Qb1;Qc1;Qa2;Qb2;Qc2",
        "ka5;Kb3;Re1;#a1;#b1;#c1;Na2;Bb2;#c2;#d2;Na3;#e3",
        "kc3;#b2;#c2;#d2;#b4;#d4;#b3;#d3;Ra1;Rd5;Ka5;Be2"
    };

    private static long seed = 20261119L;
    private static int wrong;

    private static MateKeys x;
    private static ModelKit model;

    public static void main(String[] args) {
        for (int run = 0; run < RUNS && wrong < 20; run++) {
            x = new MateKeys();
            model = new ModelKit();
            int calls = begin(run, STARTS[any(STARTS.length)]);
            int most = 2 + any(11);
            while (calls < CALLS - 80 && wrong < 20) {
                calls += step(run, calls, most);
            }
        }
        System.out.println(wrong == 0 ? "all answers are as due" : wrong + " answers are not as due");
        if (wrong != 0) {
            System.exit(1);
        }
    }

    private static int begin(int run, String start) {
        if (start.isEmpty()) {
            return 0;
        }
        int calls = readText(run, start);
        for (int square = 0; square < 25; square++) {
            calls += compare(run, "would", any(7), square);
        }
        return calls;
    }

    /** Numbers from a fixed seed: the runs are the same each time. */
    private static int any(int bound) {
        seed = seed * 6364136223846793005L + 1442695040888963407L;
        return (int) ((seed >>> 33) % bound);
    }

    private static int step(int run, int calls, int most) {
        int what = any(100);
        if (what < 12) {
            // Boards of some size stay about that size.
            boolean more = model.call("account", 0, 0) < most || any(6) == 0;
            return more ? compare(run, "put", anyKind(), anySquare()) : compare(run, "lift", anySquare(), 0);
        }
        if (what < 16) {
            return compare(run, "lift", anySquare(), 0);
        }
        if (what < 22) {
            int move = model.anyMove(any(1000));
            return any(4) == 0 ? compare(run, "play", anySquare(), anySquare())
                : compare(run, "play", move / 100, move % 100);
        }
        if (what < 26) {
            return compare(run, any(3) == 0 ? "mirror" : "turn", 0, 0);
        }
        if (what < 30) {
            return compare(run, "thrift", 0, 0) + compare(run, "refusal", 1, 0);
        }
        if (what < 36) {
            return readText(run, any(3) == 0 ? anySigns() : anyCommands());
        }
        if (what < 39) {
            return compare(run, "undo", 0, 0);
        }
        if (what < 41) {
            return compare(run, any(2) == 0 ? "save" : "restore", 0, 0);
        }
        if (what < 43) {
            return compare(run, "append", any(140) - 5, 0);
        }
        return ask(run, QUESTIONS[any(QUESTIONS.length)]);
    }

    private static int ask(int run, String question) {
        int move = model.anyMove(any(1000));
        switch (question) {
            case "kind":
            case "refutation":
            case "tell":
                if (any(4) > 0) {
                    return compare(run, question, move / 100, move % 100);
                }
                return compare(run, question, anySquare(), anySquare());
            case "manOf":
                return compare(run, question, anySquare(), any(6) - 1);
            case "would":
                return compare(run, question, any(9) - 1, anySquare());
            case "many":
                return compare(run, question, any(6) - 1, 0);
            case "key":
                return compare(run, question, any(5) - 1, 0);
            case "account":
                return compare(run, question, any(14) - 1, 0);
            case "refusal":
                return compare(run, question, any(5) - 1, 0);
            case "ranked":
                return compare(run, question, any(14) - 1, 0);
            case "sign":
                return compare(run, question, any(32) - 1, 0);
            case "move":
                return compare(run, question, any(60) - 1, 0);
            default:
                return compare(run, question, anySquare(), 0);
        }
    }

    private static int anySquare() {
        return any(30) == 0 ? any(2) * 26 - 1 : any(25);
    }

    private static int anyKind() {
        return any(30) == 0 ? any(2) * 8 : any(3) == 0 ? 7 : 1 + any(6);
    }

    private static String name(int square) {
        return "" + "abcde".charAt(square % 5) + (square / 5 + 1);
    }

    private static String anySigns() {
        StringBuilder text = new StringBuilder(any(2) == 0 ? anyCommands() + ";" : "");
        int length = any(6);
        for (int i = 0; i < length; i++) {
            text.append(SIGNS.charAt(any(SIGNS.length())));
        }
        return text.toString();
    }

    private static String anyCommands() {
        StringBuilder text = new StringBuilder(anyCommand());
        int commands = any(4) == 0 ? any(30) : any(3);
        for (int i = 0; i < commands; i++) {
            text.append(';').append(anyCommand());
        }
        return text.toString();
    }

    private static String anyCommand() {
        int move = model.anyMove(any(1000));
        switch (any(8)) {
            case 0:
            case 1:
                return LETTERS.charAt(any(7)) + name(any(25));
            case 2:
                return "-" + name(any(25));
            case 3:
                return name(move / 100) + "-" + name(move % 100);
            case 4:
                return name(any(25)) + "-" + name(any(25));
            case 5:
                return "t";
            case 6:
                return "m";
            default:
                return "s";
        }
    }

    private static int readText(int run, String text) {
        int calls = 0;
        for (int i = 0; i < text.length(); i++) {
            calls += compare(run, "append", text.charAt(i), 0);
        }
        return calls + compare(run, "read", 0, 0) + compare(run, "refusal", 2, 0);
    }

    /** Makes the call on both and compares the answers; one call was made on the object then. */
    private static int compare(int run, String name, int a, int b) {
        int got = call(name, a, b);
        int due = model.call(name, a, b);
        if (got != due) {
            wrong++;
            System.out.println("run " + run + ": " + name + "(" + a + ", " + b + ") answered " + got
                + ", due is " + due);
        }
        return 1;
    }

    private static int call(String name, int a, int b) {
        switch (name) {
            case "put": return x.put(a, b);
            case "lift": return x.lift(a);
            case "play": return x.play(a, b);
            case "turn": return x.turn();
            case "mirror": return x.mirror();
            case "thrift": return x.thrift();
            case "at": return x.at(a);
            case "attackers": return x.attackers(a);
            case "attackersAgain": return x.attackersAgain(a);
            case "manOf": return x.manOf(a, b);
            case "move": return x.move(a);
            case "escapes": return x.escapes();
            case "isFit": return x.isFit();
            case "key": return x.key(a);
            case "kind": return x.kind(a, b);
            case "refutation": return x.refutation(a, b);
            case "many": return x.many(a);
            case "duals": return x.duals();
            case "would": return x.would(a, b);
            case "ranked": return x.ranked(a);
            case "show": return x.show();
            case "tell": return x.tell(a, b);
            case "sign": return x.sign(a);
            case "append": return x.append(a);
            case "read": return x.read();
            case "refusal": return x.refusal(a);
            case "account": return x.account(a);
            case "isWell": return x.isWell();
            case "share": return x.share();
            case "undo": return x.undo();
            case "save": return x.save();
            case "restore": return x.restore();
            default: throw new IllegalArgumentException(name);
        }
    }
}
