import java.util.ArrayList;
import java.util.List;
import java.util.function.Supplier;

/**
 * All that calls can tell of an object, as a row of answers. Looking changes it, and it is good for 512 calls: each part
 * is looked at on an object of its own, made in the same way.
 */
final class Seen {
    private final List<String> calls = new ArrayList<>();
    private final List<Integer> answers = new ArrayList<>();

    private Seen() {
    }

    static Seen of(Supplier<LevelCellars> maker) {
        Seen seen = new Seen();
        seen.town(maker.get());
        seen.slots(maker.get());
        seen.sheets(maker.get());
        LevelCellars read = maker.get();
        seen.add("text()", read.text());
        seen.town(read);
        LevelCellars returned = maker.get();
        seen.add("back()", returned.back());
        seen.town(returned);
        int[] many = {1, 2, 3, 4, 15, 29, 30};
        for (int n : many) {
            seen.add("check(" + n + ")", maker.get().check(n));
        }
        return seen;
    }

    private void add(String call, int answer) {
        calls.add(call);
        answers.add(answer);
    }

    private void town(LevelCellars x) {
        for (int what = 0; what < 9; what++) {
            add("count(" + what + ")", x.count(what));
        }
        for (int what = 0; what < 4; what++) {
            add("town(" + what + ")", x.town(what));
        }
        for (int c = 0; c < x.count(0); c++) {
            for (int what = 0; what < 11; what++) {
                add("told(" + c + ", " + what + ")", x.told(c, what));
            }
            add("fine(" + c + ")", x.fine(c));
        }
        for (int p = 0; p < x.count(1); p++) {
            for (int what = 0; what < 5; what++) {
                add("pipeOf(" + p + ", " + what + ")", x.pipeOf(p, what));
            }
        }
        for (int t = 0; t < x.count(5); t++) {
            add("textTold(" + t + ", 0)", x.textTold(t, 0));
            add("textTold(" + t + ", 1)", x.textTold(t, 1));
        }
        for (int key = 0; key < 3; key++) {
            add("why(" + key + ")", x.why(key));
        }
        add("fee()", x.fee());
    }

    private void slots(LevelCellars x) {
        for (int slot = 0; slot < 5; slot++) {
            for (int kind = 0; kind < 6; kind++) {
                add("ask(" + slot + ", " + kind + ")", x.ask(slot, kind));
            }
            add("rest(" + slot + ", 9973)", x.rest(slot, 9973));
            add("rest(" + slot + ", 65536)", x.rest(slot, 65536));
            items(x, slot, "the SHEET in SLOT " + slot);
        }
    }

    private void sheets(LevelCellars x) {
        for (int sheet = 0; sheet < 4; sheet++) {
            add("reads(" + sheet + ")", x.reads(sheet));
            x.lay(0, 0, 0);
            add("lay(0, 2, " + sheet + ")", x.lay(0, 2, sheet));
            items(x, 0, "SHEET " + sheet);
            // A place of shorts takes no NO NUMBER: so the sort is seen, too.
            add("mark(" + sheet + ", 0, NONE)", x.mark(sheet, 0, LevelCellars.NONE));
        }
    }

    private void items(LevelCellars x, int slot, String of) {
        for (int place = 0; place < 25; place++) {
            add("item " + place + " of " + of, x.item(slot, place));
        }
    }

    /** The first call whose answer is another one; empty: all are alike. */
    String unlike(Seen other) {
        for (int i = 0; i < calls.size() && i < other.calls.size(); i++) {
            if (!calls.get(i).equals(other.calls.get(i)) || !answers.get(i).equals(other.answers.get(i))) {
                return calls.get(i) + " answered " + answers.get(i) + ", not " + other.answers.get(i);
            }
        }
        return calls.size() == other.calls.size() ? "" : "there is more to be seen";
    }
}
