/** Promises 31 to 33, undo, save and restore, and what refused calls leave as it was. */
public final class UndoTest {
    private static final CheckKit CHECK = new CheckKit();
    private static final String ONE_KEY = "k..../...../.K.../...../....R";

    public static void main(String[] args) {
        undoEachChange();
        undoAtMostEight();
        undoNoRead();
        undoLeavesLineTextAndReasons();
        saveAndRestore();
        restoreLeavesLineTextAndReasons();
        refusedCallsChangeNothing();
        CHECK.finish();
    }

    private static void undoEachChange() {
        MateKeys x = CheckKit.board("k..../...../.K.../....#/#...R");
        String[] states = new String[8];
        for (int i = 0; i < 7; i++) {
            states[i] = CheckKit.state(x);
            CHECK.due("change " + i, change(x, i) >= 0 ? 1 : 0, 1);
        }
        for (int i = 6; i >= 0; i--) {
            int left = x.account(11);
            CHECK.due("undo " + i, x.undo(), left - 1);
            CHECK.due("undoable", x.account(11), left - 1);
            String undone = states[i].substring(0, states[i].lastIndexOf(' '));
            CHECK.due("state", CheckKit.state(x).substring(0, undone.length()), undone);
        }
        CHECK.due("undo of a put", x.undo(), 0);
        CHECK.due("undo of none", x.undo(), MateKeys.NOTHING);
    }

    private static int change(MateKeys x, int number) {
        switch (number) {
            case 0:
                return x.play(4, 9);
            case 1:
                return x.put(6, 4);
            case 2:
                return x.thrift();
            case 3:
                return x.turn();
            case 4:
                return x.mirror();
            case 5:
                return CheckKit.read(x, "#e5;t;-e1;#e1");
            default:
                return x.lift(x.account(3));
        }
    }

    private static void undoAtMostEight() {
        MateKeys x = new MateKeys();
        for (int square = 0; square < 12; square++) {
            x.put(6, square);
            CHECK.due("undoable", x.account(11), Math.min(square + 1, 8));
        }
        for (int left = 7; left >= 0; left--) {
            CHECK.due("undo", x.undo(), left);
            CHECK.due("men", x.account(0), left + 4);
        }
        CHECK.due("undo", x.undo(), MateKeys.NOTHING);
        CHECK.due("men", x.account(0), 4);
        // Undone changes make room again, and new ones are undone ahead of older ones.
        x.put(5, 24);
        x.put(4, 23);
        CHECK.due("undo", x.undo(), 1);
        x.put(3, 22);
        CHECK.due("undo", x.undo(), 1);
        CHECK.due("at", x.at(24) * 100 + x.at(23) * 10 + x.at(22), 500);
        CHECK.due("undo", x.undo(), 0);
        CHECK.due("men", x.account(0), 4);
    }

    private static void undoNoRead() {
        MateKeys x = CheckKit.board(ONE_KEY);
        CHECK.due("read", CheckKit.read(x, "t;t;t"), 3);
        CHECK.due("undoable", x.account(11), 4);
        CHECK.due("wrong", CheckKit.read(x, "t;;"), -102);
        CHECK.due("refused", CheckKit.read(x, "t;Ka1"), MateKeys.REFUSED);
        CHECK.due("undoable", x.account(11), 4);
        CHECK.due("undo of three turns", x.undo(), 3);
        CHECK.due("turned", x.account(9), 0);
        CHECK.due("board", CheckKit.show(x), ONE_KEY);
    }

    private static void undoLeavesLineTextAndReasons() {
        MateKeys x = CheckKit.board(ONE_KEY);
        x.put(6, 0);
        x.lift(1);
        x.append('t');
        String line = CheckKit.show(x);
        CHECK.due("undo", x.undo(), 3);
        CHECK.due("line", CheckKit.line(x), line);
        CHECK.due("text", x.account(10), 1);
        CHECK.refused(x, "reason", MateKeys.REFUSED, 4, 1);
    }

    private static void saveAndRestore() {
        MateKeys x = new MateKeys();
        CHECK.due("nothing saved", x.restore(), MateKeys.NOTHING);
        CHECK.due("save of an empty board", x.save(), 0);
        x.put(6, 3);
        CHECK.due("restore", x.restore(), 0);
        CHECK.due("at", x.at(3), 0);
        CHECK.due("undo behind restore", x.undo(), MateKeys.NOTHING);
        x = CheckKit.board("k..../...../.K.../....R/#..#.");
        x.play(9, 4);
        x.thrift();
        x.turn();
        CHECK.due("undoable", x.account(11), 8);
        CHECK.due("save", x.save(), 3);
        CHECK.due("undoable behind save", x.account(11), 8);
        String state = CheckKit.state(x);
        String saved = state.substring(0, state.lastIndexOf(' '));
        x.turn();
        x.put(6, 12);
        x.lift(12);
        CHECK.due("restore", x.restore(), 3);
        CHECK.due("restored", CheckKit.state(x), saved + " 0");
        CHECK.due("undo", x.undo(), MateKeys.NOTHING);
        // The snapshot stays, and is no part of what undo brings back.
        x.mirror();
        x.mirror();
        x.undo();
        CHECK.due("restore again", x.restore(), 3);
        CHECK.due("restored", CheckKit.state(x), saved + " 0");
        x.put(6, 12);
        CHECK.due("a later one", x.save(), 4);
        x.undo();
        x.lift(x.account(3));
        CHECK.due("restore the later one", x.restore(), 4);
        CHECK.due("at", x.at(12), 6);
    }

    private static void restoreLeavesLineTextAndReasons() {
        MateKeys x = CheckKit.board(ONE_KEY);
        x.save();
        x.put(6, 0);
        x.lift(1);
        x.append('t');
        String line = CheckKit.show(x);
        CHECK.due("restore", x.restore(), 3);
        CHECK.due("line", CheckKit.line(x), line);
        CHECK.due("text", x.account(10), 1);
        CHECK.refused(x, "reason", MateKeys.REFUSED, 4, 1);
        CHECK.due("read", x.read(), 1);
        CHECK.due("turned", x.account(9), 1);
        CHECK.due("undoable", x.account(11), 1);
    }

    private static void refusedCallsChangeNothing() {
        MateKeys x = CheckKit.board(ONE_KEY);
        x.play(4, 3);
        x.append('t');
        String state = CheckKit.state(x);
        x.put(2, 20);
        x.put(1, 0);
        x.put(0, 0);
        x.put(2, 25);
        x.lift(0);
        x.lift(25);
        x.play(0, 1);
        x.play(3, 9);
        x.play(3, 25);
        x.thrift();
        x.append(7);
        CHECK.due("state", CheckKit.state(x), state);
        CHECK.due("undo of the move", x.undo(), 3);
        CHECK.due("board", CheckKit.show(x), ONE_KEY);
    }
}
