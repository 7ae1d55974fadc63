import java.util.function.IntSupplier;

/** What the boundary tests share: tables to begin with, texts, and all that a table tells. */
final class Tables {
    private Tables() {
    }

    /** Lines that are not new, and no change made. */
    static TrackedTable plain(int rows, int columns) {
        TrackedTable x = new TrackedTable();
        x.track(false);
        for (int i = 0; i < rows; i++) {
            x.insert(0, 0, i);
        }
        for (int i = 0; i < columns; i++) {
            x.insert(0, 1, i);
        }
        x.track(true);
        return x;
    }

    /**
     * Two rows and two columns that are not new; the number of changes was made, all by turns of
     * the authors 0 and 1 at the cell 0, 0: change n is by author n % 2, with the value n + 1.
     */
    static TrackedTable made(int changes) {
        TrackedTable x = plain(2, 2);
        for (int n = 0; n < changes; n++) {
            x.set(n % 2, 0, 0, n + 1);
        }
        return x;
    }

    /** Leaves room in the history, so that a state too many shows in their number. */
    static void makeRoomInHistory(TrackedTable x) {
        x.track(x.count(5) == 0);
        x.undo();
    }

    static void write(TrackedTable x, String text) {
        x.clearText();
        for (int i = 0; i < text.length(); i++) {
            x.type(text.charAt(i));
        }
    }

    static int runText(TrackedTable x, int author, String text) {
        write(x, text);
        return x.run(author);
    }

    /** A call that is described as an act and is not refused records one state, the one before it. */
    static void act(TrackedTable x, String what, IntSupplier call, int want) {
        makeRoomInHistory(x);
        int states = x.count(9);
        String before = told(x);
        Due.is(what, call.getAsInt(), want);
        String after = told(x);
        Due.is(what + ": states then", x.count(9), states + 1);
        Due.is(what + ": undone", x.undo(), states);
        Due.same(what + ": what is told when it is undone", told(x), before);
        Due.is(what + ": once more", call.getAsInt(), want);
        Due.same(what + ": what is told then", told(x), after);
    }

    /** A call that reports an error or NONE changes nothing. */
    static void refused(TrackedTable x, String what, IntSupplier call, int want) {
        makeRoomInHistory(x);
        String before = toldWhole(x);
        Due.is(what, call.getAsInt(), want);
        Due.same(what + ": what is told then", toldWhole(x), before);
    }

    /** A state, and the text and the history as far as they are told. */
    static String toldWhole(TrackedTable x) {
        return told(x) + " history " + x.count(9) + " text " + x.count(10);
    }

    /** All that is told of a state. */
    static String told(TrackedTable x) {
        StringBuilder all = new StringBuilder("counts");
        for (int what = 0; what <= 8; what++) {
            all.append(' ').append(x.count(what));
        }
        for (int view = 0; view < 3; view++) {
            toldView(x, view, all);
        }
        for (int axis = 0; axis < 2; axis++) {
            toldLines(x, axis, all);
        }
        toldChanges(x, all);
        return all.toString();
    }

    private static void toldView(TrackedTable x, int view, StringBuilder all) {
        all.append(" view ").append(view).append(" sum ").append(x.sum(view));
        for (int row = 0; row < x.size(view, 0); row++) {
            all.append(" row");
            for (int column = 0; column < x.size(view, 1); column++) {
                all.append(' ').append(x.cell(view, row, column));
            }
        }
    }

    private static void toldLines(TrackedTable x, int axis, StringBuilder all) {
        for (int place = 0; place < x.size(0, axis); place++) {
            all.append(" line ").append(axis).append('/').append(place);
            for (int what = 0; what < 5; what++) {
                all.append(' ').append(x.line(axis, place, what));
            }
        }
    }

    private static void toldChanges(TrackedTable x, StringBuilder all) {
        for (int number = 0; number < x.count(0); number++) {
            all.append(" change ").append(number);
            for (int what = 0; what < 9; what++) {
                all.append(' ').append(x.change(number, what));
            }
            all.append(" read ").append(x.pending(number));
        }
    }
}
