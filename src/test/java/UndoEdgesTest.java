import java.util.LinkedHashMap;
import java.util.Map;

/** The edges of promises 31 to 33; each test names its promise and the sentence that it holds to. */
public final class UndoEdgesTest {
    private static final CheckKit CHECK = new CheckKit();
    private static final EdgeKit EDGES = new EdgeKit(CHECK);

    public static void main(String[] args) {
        undoOfNone();
        undoOfEachKind();
        undoOfSevenEightAndNine();
        undoLatestFirst();
        undoBehindUndo();
        undoOfNoChange();
        undoLeavesWhatItDoesNotHold();
        undoLeavesTheSnapshot();
        saveReturns();
        saveIsNoChange();
        saveInPlaceOfTheEarlier();
        restoreOfNone();
        restoreReturns();
        restoreStays();
        restoreThenNoUndo();
        restoreThenUndoOfLater();
        restoreBringsAllBack();
        restoreLeavesWhatItDoesNotHold();
        CHECK.finish();
    }

    /** All that changes can change, but how many of them can be undone. */
    private static String kept(MateKeys x) {
        StringBuilder kept = new StringBuilder();
        for (int square = 0; square < 25; square++) {
            kept.append(x.at(square));
        }
        for (int what = 6; what <= 9; what++) {
            kept.append(' ').append(x.account(what));
        }
        return kept.toString();
    }

    // ---- promise 31

    private static void undoOfNone() {
        CHECK.about("Promise 31: NOTHING if there is none");
        EDGES.leavesAll("a new object", MateKeys::new, x -> x.undo(), MateKeys.NOTHING);
        EDGES.leavesAll("behind restore", () -> restored(EdgeKit.busyWithText()), x -> x.undo(),
            MateKeys.NOTHING);
        EDGES.leavesAll("behind all undos", () -> undone(EdgeKit.busyWithText()), x -> x.undo(),
            MateKeys.NOTHING);
    }

    private static MateKeys restored(MateKeys x) {
        x.restore();
        return x;
    }

    private static MateKeys undone(MateKeys x) {
        for (int i = 0; i < 8; i++) {
            x.undo();
        }
        return x;
    }

    private static void undoOf(String change, EdgeKit.Maker maker, EdgeKit.Call made) {
        MateKeys x = maker.make();
        String ahead = kept(x);
        int changes = x.account(11);
        CHECK.due(change + " succeeds", made.on(x) >= 0 ? 1 : 0, 1);
        CHECK.due("changes behind " + change, x.account(11), changes + 1);
        CHECK.due("something has changed by " + change, kept(x).equals(ahead) ? 1 : 0, 0);
        CHECK.due("undo of " + change, x.undo(), changes);
        CHECK.due("behind undo of " + change, kept(x), ahead);
        CHECK.due("changes behind undo of " + change, x.account(11), changes);
    }

    private static void undoOfEachKind() {
        CHECK.about("Promise 31 and Changes: of put, lift, play, turn, mirror, thrift and read");
        undoOf("put", MateKeys::new, x -> x.put(7, 24));
        undoOf("lift", EdgeKit::oneKey, x -> x.lift(20));
        undoOf("play", EdgeKit::oneKey, x -> x.play(4, 24));
        undoOf("play that takes a stone", () -> CheckKit.board("...../...../...../...../R#..."),
            x -> x.play(0, 1));
        undoOf("turn", EdgeKit::oneKey, x -> x.turn());
        undoOf("turn of an empty board", MateKeys::new, x -> x.turn());
        undoOf("mirror", EdgeKit::oneKey, x -> x.mirror());
        undoOf("mirror of an empty board", MateKeys::new, x -> x.mirror());
        undoOf("thrift of one", () -> CheckKit.board("k..../...../.K.../...../#...R"), x -> x.thrift());
        undoOf("read of one", EdgeKit::oneKey, x -> CheckKit.read(x, "-a5"));
        undoOf("read of more", EdgeKit::oneKey, x -> CheckKit.read(x, "t;#a5;s;a1-b1;m"));
        undoOf("read of a move that takes", () -> CheckKit.board("...../...../...../...../R#..."),
            x -> CheckKit.read(x, "a1-b1"));
    }

    private static void undoOfSevenEightAndNine() {
        CHECK.about("Promise 31 and Changes: at most 8 of them can be undone");
        for (int changes = 0; changes <= 12; changes++) {
            MateKeys x = new MateKeys();
            for (int i = 0; i < changes; i++) {
                x.put(6, i);
            }
            int most = Math.min(changes, 8);
            CHECK.due("of " + changes, x.account(11), most);
            for (int left = most - 1; left >= 0; left--) {
                CHECK.due("undo of " + changes, x.undo(), left);
                CHECK.due("changes left", x.account(11), left);
                CHECK.due("stones left", x.account(2), changes - most + left);
            }
            CHECK.due("one more of " + changes, x.undo(), MateKeys.NOTHING);
            CHECK.due("stones behind it", x.account(2), changes - most);
        }
    }

    private static void undoLatestFirst() {
        CHECK.about("Promise 31 and Changes: the latest first");
        MateKeys x = new MateKeys();
        String[] ahead = new String[20];
        for (int i = 0; i < 20; i++) {
            ahead[i] = kept(x);
            CHECK.due("change " + i, i % 3 == 0 ? x.put(5, i) > 0 ? 1 : 0 : i % 3 == 1 ? x.turn() > 0 ? 1 : 0
                : x.mirror() > 0 ? 1 : 0, 1);
        }
        for (int i = 19; i >= 12; i--) {
            x.undo();
            CHECK.due("ahead of change " + i, kept(x), ahead[i]);
        }
        CHECK.due("no more", x.undo(), MateKeys.NOTHING);
    }

    private static void undoBehindUndo() {
        CHECK.about("Promise 31: an undone change makes room for another, and is not brought back");
        MateKeys x = new MateKeys();
        for (int i = 0; i < 9; i++) {
            x.put(6, i);
        }
        for (int round = 0; round < 20; round++) {
            CHECK.due("undo", x.undo(), 7);
            CHECK.due("put", x.put(6, 10 + round % 10), 9);
            CHECK.due("changes", x.account(11), 8);
        }
        for (int left = 7; left >= 0; left--) {
            CHECK.due("undo", x.undo(), left);
            CHECK.due("stones", x.account(2), left + 1);
        }
        CHECK.due("no more", x.undo(), MateKeys.NOTHING);
        CHECK.due("the first stone", x.at(0), 6);
    }

    private static void undoOfNoChange() {
        CHECK.about("Changes: the successful calls alone, and none of the other calls");
        MateKeys x = EdgeKit.oneKey();
        x.put(2, 20);
        x.lift(0);
        x.play(4, 8);
        x.thrift();
        x.show();
        x.tell(4, 24);
        x.save();
        x.append('t');
        x.append(7);
        x.would(0, 4);
        x.many(3);
        x.isWell();
        CHECK.due("changes", x.account(11), 3);
        x.undo();
        CHECK.due("the rook's put is undone", x.at(4), 0);
    }

    private static void undoLeavesWhatItDoesNotHold() {
        CHECK.about("Errors: the text, the line and the reasons are in neither undo nor snapshot, and stay");
        MateKeys x = EdgeKit.oneKey();
        String line = CheckKit.show(x);
        x.lift(0);
        x.append('t');
        x.append(';');
        CHECK.due("undo", x.undo(), 2);
        CHECK.due("the line", CheckKit.line(x), line);
        CHECK.due("the text", x.account(10), 2);
        CHECK.refused(x, "the reason", MateKeys.REFUSED, 4, 0);
        x.append('m');
        CHECK.due("read of the text", x.read(), 2);
        CHECK.about("Promise 31: what read has emptied stays empty");
        CHECK.due("undo of read", x.undo(), 2);
        CHECK.due("the text", x.account(10), 0);
    }

    private static void undoLeavesTheSnapshot() {
        CHECK.about("Promise 31: undo leaves the snapshot");
        MateKeys x = EdgeKit.oneKey();
        x.save();
        x.undo();
        x.undo();
        CHECK.due("restore", x.restore(), 3);
        CHECK.due("the rook", x.at(4), 3);
        x = new MateKeys();
        x.turn();
        x.undo();
        CHECK.due("no snapshot by undo", x.restore(), MateKeys.NOTHING);
    }

    // ---- promise 32

    private static void saveReturns() {
        CHECK.about("Promise 32: returns how many men and stones there are, 0 to 12");
        CHECK.due("an empty board", new MateKeys().save(), 0);
        MateKeys x = new MateKeys();
        for (int count = 1; count <= 12; count++) {
            x.put(6, count);
            CHECK.due("save", x.save(), count);
        }
        CHECK.due("a full board", EdgeKit.full().save(), 12);
        CHECK.due("where not fit", EdgeKit.notFit().save(), 4);
    }

    private static void saveIsNoChange() {
        CHECK.about("Promise 32 and Changes: to save is no change; all but the snapshot stays");
        Map<String, Integer> before = withoutRestore(EdgeKit::busyWithText);
        Map<String, Integer> behind = withoutRestore(() -> {
            MateKeys x = EdgeKit.busyWithText();
            x.save();
            return x;
        });
        for (Map.Entry<String, Integer> one : before.entrySet()) {
            CHECK.due("save, and then " + one.getKey(), behind.get(one.getKey()), one.getValue());
        }
    }

    private static Map<String, Integer> withoutRestore(EdgeKit.Maker maker) {
        Map<String, Integer> answers = new LinkedHashMap<>(EdgeKit.answers(maker));
        answers.keySet().removeIf(name -> name.contains("restore"));
        return answers;
    }

    private static void saveInPlaceOfTheEarlier() {
        CHECK.about("Promise 32: in place of an earlier one");
        MateKeys x = EdgeKit.full();
        x.save();
        x.lift(4);
        x.save();
        x.lift(0);
        CHECK.due("restore", x.restore(), 11);
        CHECK.due("at e1", x.at(4), 0);
        CHECK.due("at a1", x.at(0), 6);
        CHECK.about("Promise 32: an empty board is a snapshot as others");
        x = new MateKeys();
        x.save();
        x.put(6, 0);
        CHECK.due("restore", x.restore(), 0);
        CHECK.due("at a1", x.at(0), 0);
    }

    // ---- promise 33

    private static void restoreOfNone() {
        CHECK.about("Promise 33: NOTHING if there is no snapshot");
        EDGES.leavesAll("a new object", MateKeys::new, x -> x.restore(), MateKeys.NOTHING);
        EDGES.leavesAll("a full board", EdgeKit::full, x -> x.restore(), MateKeys.NOTHING);
        EDGES.leavesAll("with changes, a line and a refusal", () -> {
            MateKeys x = EdgeKit.oneKey();
            x.turn();
            x.show();
            x.lift(12);
            x.append('m');
            return x;
        }, x -> x.restore(), MateKeys.NOTHING);
    }

    private static void restoreReturns() {
        CHECK.about("Promise 33: returns how many men and stones there are, 0 to 12");
        MateKeys x = new MateKeys();
        x.save();
        x.put(6, 0);
        CHECK.due("0", x.restore(), 0);
        x = EdgeKit.full();
        x.save();
        x.lift(0);
        CHECK.due("12", x.restore(), 12);
        CHECK.due("a thirteenth", x.put(2, 24), MateKeys.REFUSED);
    }

    private static void restoreStays() {
        CHECK.about("Promise 33: the snapshot, which stays");
        MateKeys x = EdgeKit.busyWithText();
        x.restore();
        String saved = kept(x);
        for (int round = 0; round < 10; round++) {
            x.turn();
            x.put(6, 12);
            x.play(x.move(0) / 100, x.move(0) % 100);
            x.thrift();
            CHECK.due("restore " + round, x.restore(), 4);
            CHECK.due("restored " + round, kept(x), saved);
        }
        CHECK.due("restore at once", x.restore(), 4);
        CHECK.due("restored", kept(x), saved);
    }

    private static void restoreThenNoUndo() {
        CHECK.about("Promise 33: nothing can be undone then");
        for (int changes = 0; changes <= 9; changes++) {
            MateKeys x = new MateKeys();
            x.save();
            for (int i = 0; i < changes; i++) {
                x.turn();
            }
            x.restore();
            CHECK.due("changes behind restore of " + changes, x.account(11), 0);
            CHECK.due("undo behind restore of " + changes, x.undo(), MateKeys.NOTHING);
            CHECK.due("turned", x.account(9), 0);
        }
    }

    private static void restoreThenUndoOfLater() {
        CHECK.about("Promise 33: what is changed behind it can be undone, up to the restored board");
        for (int earlier = 0; earlier <= 9; earlier++) {
            MateKeys x = EdgeKit.oneKey();
            for (int i = 0; i < earlier; i++) {
                x.turn();
            }
            x.save();
            x.mirror();
            x.restore();
            String saved = kept(x);
            for (int changes = 1; changes <= 9; changes++) {
                x.put(6, changes == 1 ? 2 : 6);
                x.turn();
            }
            CHECK.due("changes", x.account(11), 8);
            x.restore();
            CHECK.due("restored", kept(x), saved);
            CHECK.due("a change", x.turn(), 3);
            CHECK.due("another", x.mirror(), 3);
            CHECK.due("undo", x.undo(), 1);
            CHECK.due("undo", x.undo(), 0);
            CHECK.due("undone", kept(x), saved);
            CHECK.due("no more", x.undo(), MateKeys.NOTHING);
        }
    }

    private static void restoreBringsAllBack() {
        CHECK.about("Errors: the snapshot contains what changes can change");
        MateKeys x = CheckKit.board("k..../...../.K.../#...#/#...R");
        x.play(4, 9);
        x.thrift();
        x.turn();
        x.save();
        String saved = kept(x);
        CHECK.due("what is saved", saved.endsWith(" 1 1 2 1") ? 1 : 0, 1);
        CheckKit.read(x, "t;m;m;m;#e1;s");
        x.play(x.move(0) / 100, x.move(0) % 100);
        CHECK.due("what is behind it is another", kept(x).equals(saved) ? 1 : 0, 0);
        CHECK.due("restore", x.restore(), 3);
        CHECK.due("what is restored", kept(x), saved);
        x = EdgeKit.kingless();
        x.save();
        x.put(7, 24);
        CHECK.due("restore", x.restore(), 4);
        CHECK.due("no black king", x.account(3), MateKeys.NOTHING);
        CHECK.due("a black king again", x.put(7, 24), 5);
    }

    private static void restoreLeavesWhatItDoesNotHold() {
        CHECK.about("Errors: the text, the line and the reasons are in neither undo nor snapshot, and stay");
        MateKeys x = EdgeKit.oneKey();
        x.append('m');
        x.save();
        CHECK.due("the text of now", x.append(';'), 2);
        String line = CheckKit.tell(x, "e1", "a1");
        x.lift(0);
        CHECK.due("restore", x.restore(), 3);
        CHECK.due("the line", CheckKit.line(x), line);
        CHECK.due("the text", x.append('t'), 3);
        CHECK.refused(x, "the reason", MateKeys.REFUSED, 4, 0);
        CHECK.due("read of the text", x.read(), 2);
        CHECK.due("restore behind read", x.restore(), 3);
        CHECK.due("the text stays empty", x.account(10), 0);
    }
}
