import java.util.ArrayDeque;
import java.util.ArrayList;
import java.util.Arrays;
import java.util.Collections;
import java.util.Deque;
import java.util.List;
import java.util.TreeSet;
import java.util.regex.Matcher;
import java.util.regex.Pattern;

/**
 * The document once more, written slowly and in another way than the class: squares are compared
 * in pairs, moves are lists of numbers, states are values, and texts are matched by a pattern.
 */
final class ModelKit {
    private static final String LETTERS = ".KQRBN#k";
    private static final String COMMAND =
        "(?:[KQRBN#k][a-e][1-5]|-[a-e][1-5]|[a-e][1-5]-[a-e][1-5]|[tms])";
    private static final Pattern TEXT = Pattern.compile(COMMAND + "(?:;" + COMMAND + ")*");

    /** The board as 25 signs from a1 on, and what was played, taken, spared and turned so far. */
    private record State(String men, int played, int taken, int spared, int turned) {
        State withMen(String other) {
            return new State(other, played, taken, spared, turned);
        }
    }

    private State state = new State(".".repeat(25), 0, 0, 0, 0);
    private State saved;
    private final Deque<State> undos = new ArrayDeque<>();
    private String line = "";
    private String text = "";
    private int reason;
    private int detail;
    private int refusedCommand;
    private int command = -4;

    // ---- boards

    private static boolean on(int square) {
        return square >= 0 && square <= 24;
    }

    static String with(String men, int square, char sign) {
        return men.substring(0, square) + sign + men.substring(square + 1);
    }

    private static int total(String men) {
        return 25 - men.replaceAll("[^.]", "").length();
    }

    private static boolean white(char sign) {
        return "KQRBN".indexOf(sign) >= 0;
    }

    private static boolean beside(int one, int other) {
        int columns = Math.abs(one % 5 - other % 5);
        int rows = Math.abs(one / 5 - other / 5);
        return Math.max(columns, rows) == 1;
    }

    /** Whether the man on the first square attacks the second one. */
    static boolean attacks(String men, int from, int to) {
        int columns = to % 5 - from % 5;
        int rows = to / 5 - from / 5;
        int longer = Math.max(Math.abs(columns), Math.abs(rows));
        boolean straight = columns == 0 ^ rows == 0;
        boolean slanting = columns != 0 && Math.abs(columns) == Math.abs(rows);
        switch (men.charAt(from)) {
            case 'K':
            case 'k':
                return beside(from, to);
            case 'N':
                return Math.abs(columns * rows) == 2;
            case 'Q':
                if (!straight && !slanting) {
                    return false;
                }
                break;
            case 'R':
                if (!straight) {
                    return false;
                }
                break;
            case 'B':
                if (!slanting) {
                    return false;
                }
                break;
            default:
                return false;
        }
        for (int i = 1; i < longer; i++) {
            int between = (from / 5 + rows / longer * i) * 5 + from % 5 + columns / longer * i;
            if (men.charAt(between) != '.') {
                return false;
            }
        }
        return true;
    }

    private static int attackersOf(String men, int square) {
        int count = 0;
        for (int from = 0; from < 25; from++) {
            if (white(men.charAt(from)) && attacks(men, from, square)) {
                count++;
            }
        }
        return count;
    }

    static boolean fit(String men) {
        int king = men.indexOf('k');
        return king >= 0 && attackersOf(men, king) == 0;
    }

    static boolean legal(String men, int from, int to) {
        char man = men.charAt(from);
        char there = men.charAt(to);
        if (!white(man) || white(there) || there == 'k' || !attacks(men, from, to)) {
            return false;
        }
        int king = men.indexOf('k');
        return man != 'K' || king < 0 || !beside(to, king);
    }

    static List<Integer> moves(String men) {
        List<Integer> moves = new ArrayList<>();
        for (int number = 0; number < 2500; number++) {
            if (number % 100 < 25 && legal(men, number / 100, number % 100)) {
                moves.add(number);
            }
        }
        return moves;
    }

    private static String behind(String men, int number) {
        int from = number / 100;
        return with(with(men, number % 100, men.charAt(from)), from, '.');
    }

    static TreeSet<Integer> flights(String men) {
        TreeSet<Integer> flights = new TreeSet<>();
        int king = men.indexOf('k');
        for (int to = 0; king >= 0 && to < 25; to++) {
            if (beside(king, to) && men.charAt(to) != '#') {
                String gone = with(with(men, king, '.'), to, 'k');
                if (attackersOf(gone, to) == 0) {
                    flights.add(to);
                }
            }
        }
        return flights;
    }

    private static int kindOf(String men, int number) {
        String behind = behind(men, number);
        boolean attacked = attackersOf(behind, behind.indexOf('k')) > 0;
        boolean stuck = flights(behind).isEmpty();
        return attacked && stuck ? 3 : attacked ? 2 : stuck ? 1 : 0;
    }

    /** What kind tells of any two squares in a fit position: -1 if there is no such move. */
    static int kindOrNone(String men, int from, int to) {
        return legal(men, from, to) ? kindOf(men, from * 100 + to) : -1;
    }

    private static List<Integer> keys(String men) {
        List<Integer> keys = new ArrayList<>();
        for (int number : moves(men)) {
            if (kindOf(men, number) == 3) {
                keys.add(number);
            }
        }
        return keys;
    }

    private static boolean sparable(String men, int square) {
        if ("Kk.".indexOf(men.charAt(square)) >= 0) {
            return false;
        }
        List<Integer> keys = keys(men);
        if (keys.isEmpty() || keys.get(0) / 100 == square) {
            return false;
        }
        String without = with(men, square, '.');
        return fit(without) && keys(without).equals(keys);
    }

    // ---- changes

    private int refuse(int why, int about) {
        reason = why;
        detail = about;
        refusedCommand = command;
        return -3;
    }

    private int change(State ahead, int answer) {
        if (answer >= 0) {
            undos.push(ahead);
            if (undos.size() > 8) {
                undos.removeLast();
            }
        }
        return answer;
    }

    private int doPut(int kind, int square) {
        String men = state.men();
        if (!on(square)) {
            return -1;
        }
        if (kind < 1 || kind > 7) {
            return -2;
        }
        char sign = LETTERS.charAt(kind);
        if (men.charAt(square) != '.') {
            return refuse(1, LETTERS.indexOf(men.charAt(square)));
        }
        if ("Kk".indexOf(sign) >= 0 && men.indexOf(sign) >= 0) {
            return refuse(2, men.indexOf(sign));
        }
        if (total(men) == 12) {
            return refuse(3, 12);
        }
        state = state.withMen(with(men, square, sign));
        return total(men) + 1;
    }

    private int doLift(int square) {
        if (!on(square)) {
            return -1;
        }
        char there = state.men().charAt(square);
        if (there == '.') {
            return refuse(4, square);
        }
        state = state.withMen(with(state.men(), square, '.'));
        return LETTERS.indexOf(there);
    }

    private int doPlay(int from, int to) {
        if (!on(from) || !on(to)) {
            return -1;
        }
        String men = state.men();
        if (men.charAt(from) == '.') {
            return refuse(4, from);
        }
        if (!legal(men, from, to)) {
            return refuse(5, LETTERS.indexOf(men.charAt(from)));
        }
        boolean takes = men.charAt(to) == '#';
        state = new State(behind(men, from * 100 + to), state.played() + 1,
            state.taken() + (takes ? 1 : 0), state.spared(), state.turned());
        return takes ? 6 : 0;
    }

    private int doTurn() {
        // Behind it a row, from the row 5 down, is a column from the column a on.
        StringBuilder men = new StringBuilder();
        for (int row = 0; row < 5; row++) {
            for (int column = 0; column < 5; column++) {
                men.append(state.men().charAt(column * 5 + 4 - row));
            }
        }
        return turned(men.toString());
    }

    private int doMirror() {
        StringBuilder men = new StringBuilder();
        for (int row = 0; row < 5; row++) {
            men.append(new StringBuilder(state.men().substring(row * 5, row * 5 + 5)).reverse());
        }
        return turned(men.toString());
    }

    private int turned(String men) {
        state = new State(men, state.played(), state.taken(), state.spared(), state.turned() + 1);
        return total(men);
    }

    private int doThrift() {
        String men = state.men();
        if (!fit(men)) {
            int king = men.indexOf('k');
            return refuse(7, king < 0 ? 0 : attackersOf(men, king));
        }
        int off = 0;
        int square = 24;
        while (square >= 0) {
            if (sparable(men, square)) {
                men = with(men, square, '.');
                off++;
                square = 24;
            } else {
                square--;
            }
        }
        if (off == 0) {
            return refuse(6, total(men));
        }
        state = new State(men, state.played(), state.taken(), state.spared() + off, state.turned());
        return off;
    }

    private static int squareAt(String word, int index) {
        return "abcde".indexOf(word.charAt(index)) + 5 * "12345".indexOf(word.charAt(index + 1));
    }

    private int carryOut(String word) {
        if (word.length() == 1) {
            return word.equals("t") ? doTurn() : word.equals("m") ? doMirror() : doThrift();
        }
        if (word.length() == 5) {
            return doPlay(squareAt(word, 0), squareAt(word, 3));
        }
        int square = squareAt(word, 1);
        return word.charAt(0) == '-' ? doLift(square) : doPut(LETTERS.indexOf(word.charAt(0)), square);
    }

    private static boolean couldContinue(String prefix) {
        Matcher matcher = TEXT.matcher(prefix);
        return matcher.matches() || matcher.hitEnd();
    }

    private int doRead() {
        String words = text;
        text = "";
        for (int end = 1; end <= words.length(); end++) {
            if (!couldContinue(words.substring(0, end))) {
                return -100 - (end - 1);
            }
        }
        if (!TEXT.matcher(words).matches()) {
            return -100 - words.length();
        }
        State ahead = state;
        List<String> all = Arrays.asList(words.split(";"));
        for (int i = 0; i < all.size(); i++) {
            command = i;
            int answer = carryOut(all.get(i));
            command = -4;
            if (answer < 0) {
                state = ahead;
                return -3;
            }
        }
        return change(ahead, all.size());
    }

    // ---- questions

    private int manOf(int square, int what) {
        String men = state.men();
        if (!on(square)) {
            return -1;
        }
        if (what < 0 || what > 3) {
            return -2;
        }
        if (men.charAt(square) == '.') {
            return -4;
        }
        if (what == 0) {
            int count = 0;
            for (int to = 0; to < 25; to++) {
                count += attacks(men, square, to) ? 1 : 0;
            }
            return count;
        }
        if (what == 1) {
            return movesOf(men, square);
        }
        if (!fit(men)) {
            return -4;
        }
        if (what == 3) {
            return sparable(men, square) ? 1 : 0;
        }
        return (int) keys(men).stream().filter(number -> number / 100 == square).count();
    }

    private static int movesOf(String men, int square) {
        return (int) moves(men).stream().filter(number -> number / 100 == square).count();
    }

    private static int placed(List<Integer> numbers, int place) {
        return place >= 0 && place < numbers.size() ? numbers.get(place) : -1;
    }

    private int kind(int from, int to) {
        String men = state.men();
        if (!on(from) || !on(to) || !legal(men, from, to)) {
            return -1;
        }
        return fit(men) ? kindOf(men, from * 100 + to) : -4;
    }

    private int refutation(int from, int to) {
        String men = state.men();
        if (!on(from) || !on(to)) {
            return -1;
        }
        if (!fit(men)) {
            return -4;
        }
        boolean tries = legal(men, from, to) && kindOf(men, from * 100 + to) == 2;
        return tries ? flights(behind(men, from * 100 + to)).first() : -1;
    }

    private int many(int kind) {
        String men = state.men();
        if (kind < 0 || kind > 3) {
            return -2;
        }
        if (!fit(men)) {
            return -4;
        }
        return (int) moves(men).stream().filter(number -> kindOf(men, number) == kind).count();
    }

    private int would(int kind, int square) {
        String men = state.men();
        if (!on(square) || "Kk".indexOf(men.charAt(square)) >= 0) {
            return -1;
        }
        if (kind < 0 || kind > 6 || kind == 1 && men.indexOf('K') >= 0) {
            return -2;
        }
        String other = with(men, square, LETTERS.charAt(kind));
        return fit(other) ? keys(other).size() : -4;
    }

    private int ranked(int place) {
        String men = state.men();
        List<Integer> squares = new ArrayList<>();
        for (int square = 0; square < 25; square++) {
            if (white(men.charAt(square))) {
                squares.add(square);
            }
        }
        // The sort keeps the order of those that are alike.
        Collections.sort(squares, (one, other) -> movesOf(men, other) - movesOf(men, one));
        return placed(squares, place);
    }

    private int write(String words) {
        line = words;
        return line.length();
    }

    private int show() {
        StringBuilder words = new StringBuilder();
        for (int row = 4; row >= 0; row--) {
            words.append(state.men(), row * 5, row * 5 + 5).append(row > 0 ? "/" : "");
        }
        return write(words.toString());
    }

    private static String name(int square) {
        return "" + "abcde".charAt(square % 5) + (square / 5 + 1);
    }

    private int tell(int from, int to) {
        int kind = kind(from, to);
        if (kind < 0) {
            return kind;
        }
        String takes = state.men().charAt(to) == '#' ? "x" : "-";
        String[] signs = {"", "=", "+", "#"};
        return write(state.men().charAt(from) + name(from) + takes + name(to) + signs[kind]);
    }

    private int account(int what) {
        String men = state.men();
        int attacked = 0;
        for (int square = 0; square < 25; square++) {
            attacked += attackersOf(men, square) > 0 ? 1 : 0;
        }
        int king = men.indexOf('k');
        int[] all = {
            total(men), men.replaceAll("[^KQRBN]", "").length(), men.replaceAll("[^#]", "").length(),
            king < 0 ? -4 : king, moves(men).size(), attacked, state.played(), state.taken(),
            state.spared(), state.turned(), text.length(), undos.size()
        };
        return what >= 0 && what < all.length ? all[what] : -2;
    }

    private int refusal(int what) {
        if (what < 0 || what > 2) {
            return -2;
        }
        return reason == 0 ? -4 : what == 0 ? reason : what == 1 ? detail : refusedCommand;
    }

    private int append(int code) {
        if (code < 32 || code > 126 || text.length() == 70) {
            return -2;
        }
        text = text + (char) code;
        return text.length();
    }

    private int undo() {
        if (undos.isEmpty()) {
            return -4;
        }
        state = undos.pop();
        return undos.size();
    }

    private int restore() {
        if (saved == null) {
            return -4;
        }
        state = saved;
        undos.clear();
        return total(state.men());
    }

    private int flightSet() {
        int set = 0;
        for (int square : flights(state.men())) {
            set += 1 << square;
        }
        return state.men().indexOf('k') < 0 ? -4 : set;
    }

    /** The call of this name; calls with fewer arguments leave the others alone. */
    int call(String name, int a, int b) {
        String men = state.men();
        State ahead = state;
        switch (name) {
            case "put": return change(ahead, doPut(a, b));
            case "lift": return change(ahead, doLift(a));
            case "play": return change(ahead, doPlay(a, b));
            case "turn": return change(ahead, doTurn());
            case "mirror": return change(ahead, doMirror());
            case "thrift": return change(ahead, doThrift());
            case "at": return on(a) ? LETTERS.indexOf(men.charAt(a)) : -1;
            case "attackers":
            case "attackersAgain": return on(a) ? attackersOf(men, a) : -1;
            case "manOf": return manOf(a, b);
            case "move": return placed(moves(men), a);
            case "escapes": return flightSet();
            case "isFit": return fit(men) ? 1 : 0;
            case "key": return fit(men) ? placed(keys(men), a) : -4;
            case "kind": return kind(a, b);
            case "refutation": return refutation(a, b);
            case "many": return many(a);
            case "duals": return fit(men) ? Math.max(keys(men).size() - 1, 0) : -4;
            case "would": return would(a, b);
            case "ranked": return ranked(a);
            case "show": return show();
            case "tell": return tell(a, b);
            case "sign": return a >= 0 && a < line.length() ? line.charAt(a) : -1;
            case "append": return append(a);
            case "read": return doRead();
            case "refusal": return refusal(a);
            case "account": return account(a);
            case "isWell": return 1;
            case "share": return Float.floatToIntBits((float) account(5) / (float) 25);
            case "undo": return undo();
            case "save": saved = state; return total(men);
            case "restore": return restore();
            default: throw new IllegalArgumentException(name);
        }
    }

    /** A move by its place, for runs that are to play one; 0 if there is none. */
    int anyMove(int number) {
        List<Integer> moves = moves(state.men());
        return moves.isEmpty() ? 0 : moves.get(number % moves.size());
    }
}
