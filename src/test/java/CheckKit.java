/** What the tests share: boards from lines, texts, and the comparison with what is due. */
final class CheckKit {
    private static final String LETTERS = ".KQRBN#k";
    /** Of each sentence's wrong answers the first ones tell enough. */
    private static final int MOST_TOLD = 20;
    private int wrong;
    private String about = "";
    private int told;

    /** Names the promise and its sentence, for what is compared from here on. */
    void about(String sentence) {
        about = sentence + ": ";
        told = 0;
    }

    void due(String call, long got, long want) {
        if (got != want) {
            tellWrong(call, "" + got, "" + want);
        }
    }

    void due(String call, String got, String want) {
        if (!got.equals(want)) {
            tellWrong(call, got, want);
        }
    }

    private void tellWrong(String call, String got, String want) {
        wrong++;
        told++;
        if (told <= MOST_TOLD) {
            System.out.println(about + call + " answered " + got + ", due is " + want);
        }
    }

    /** The refused call's answer, and the reason with its detail and the number of its command. */
    void refused(MateKeys x, String call, int got, int reason, int detail, int command) {
        due(call, got, MateKeys.REFUSED);
        due(call + ": reason", x.refusal(0), reason);
        due(call + ": detail", x.refusal(1), detail);
        due(call + ": command", x.refusal(2), command);
    }

    void refused(MateKeys x, String call, int got, int reason, int detail) {
        refused(x, call, got, reason, detail, MateKeys.NOTHING);
    }

    void finish() {
        System.out.println(wrong == 0 ? "all answers are as due" : wrong + " answers are not as due");
        if (wrong != 0) {
            System.exit(1);
        }
    }

    /** An object with the board of such a line as show writes. */
    static MateKeys board(String line) {
        MateKeys x = new MateKeys();
        String[] rows = line.split("/");
        for (int i = 0; i < 5; i++) {
            for (int column = 0; column < 5; column++) {
                int kind = LETTERS.indexOf(rows[i].charAt(column));
                if (kind > 0) {
                    x.put(kind, (4 - i) * 5 + column);
                }
            }
        }
        return x;
    }

    static int square(String name) {
        return (name.charAt(1) - '1') * 5 + name.charAt(0) - 'a';
    }

    static int set(String... names) {
        int set = 0;
        for (String name : names) {
            set |= 1 << square(name);
        }
        return set;
    }

    static int append(MateKeys x, String text) {
        int answer = 0;
        for (int i = 0; i < text.length(); i++) {
            answer = x.append(text.charAt(i));
        }
        return answer;
    }

    static int read(MateKeys x, String text) {
        append(x, text);
        return x.read();
    }

    /** The line, read sign by sign. */
    static String line(MateKeys x) {
        StringBuilder line = new StringBuilder();
        for (int i = 0; x.sign(i) != MateKeys.NONE && i < 100; i++) {
            line.append((char) x.sign(i));
        }
        return line.toString();
    }

    static String show(MateKeys x) {
        x.show();
        return line(x);
    }

    static String tell(MateKeys x, String from, String to) {
        int length = x.tell(square(from), square(to));
        String line = line(x);
        return length == line.length() ? line : "length " + length + " of " + line;
    }

    /** All that changes can change, and the length of the text. */
    static String state(MateKeys x) {
        StringBuilder state = new StringBuilder();
        for (int square = 0; square < 25; square++) {
            state.append(LETTERS.charAt(x.at(square)));
        }
        for (int what = 6; what <= 11; what++) {
            state.append(' ').append(x.account(what));
        }
        return state.toString();
    }
}
