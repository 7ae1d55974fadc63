/** The boundary cases that promises 1 to 8 name: each test quotes the sentence that it is for. */
public final class CallsBoundaryTest {
    private static final int LOWEST = Integer.MIN_VALUE;
    private static final int HIGHEST = Integer.MAX_VALUE;

    public static void main(String[] args) {
        emptyTable();
        trackTellsPendingOnes();
        trackIfItIsSoAlready();
        insertAxis();
        insertPlace(0);
        insertPlace(1);
        insertAnswers();
        insertFull();
        insertOrderOfErrors();
        removePlace(0);
        removePlace(1);
        removeAnswers();
        removeDoomed();
        removeFull();
        removeOrderOfErrors();
        setPlaces();
        setValue();
        setAnswers();
        setHasItAlready();
        setFull();
        setOrderOfErrors();
        acceptUnknown();
        acceptNotPending();
        acceptAnswers();
        rejectUnknown();
        rejectNotPending();
        rejectAnswers();
        settleAuthors();
        settleNonePending();
        settleLowestAgainAndAgain();
        settleAnswers();
        Due.finish();
    }

    // ---- promise 1

    /** "Creates an empty table." */
    private static void emptyTable() {
        TrackedTable x = new TrackedTable();
        Due.same("a new object", Tables.toldWhole(x),
                "counts 0 0 0 0 0 1 0 0 0 view 0 sum 0 view 1 sum 0 view 2 sum 0 history 0 text 0");
    }

    // ---- promise 2

    /** "Returns the number of pending changes": not of all that were made. */
    private static void trackTellsPendingOnes() {
        TrackedTable x = new TrackedTable();
        Tables.act(x, "none", () -> x.track(false), 0);
        Tables.act(x, "none, on", () -> x.track(true), 0);
        TrackedTable y = Tables.made(60);
        Tables.act(y, "all 60", () -> y.track(false), 60);
        y.accept(19);
        y.reject(50);
        Tables.act(y, "those between", () -> y.track(true), 30);
        y.settle(-1, false);
        Tables.act(y, "none any more", () -> y.track(false), 0);
    }

    /** "NOT_POSSIBLE if it is so already." */
    private static void trackIfItIsSoAlready() {
        TrackedTable x = Tables.made(2);
        Tables.refused(x, "tracked already", () -> x.track(true), -4);
        x.track(false);
        Tables.refused(x, "untracked already", () -> x.track(false), -4);
        x.undo();
        Tables.refused(x, "tracked again by undo", () -> x.track(true), -4);
    }

    // ---- promise 3

    /** "Axis: 0 for a row, 1 for a column." */
    private static void insertAxis() {
        TrackedTable x = new TrackedTable();
        for (int wrong : new int[] {-1, 2, LOWEST, HIGHEST}) {
            Tables.refused(x, "axis " + wrong, () -> x.insert(0, wrong, 0), -1);
        }
        Due.is("a row", x.insert(0, 0, 0), 0);
        Due.is("rows", x.size(0, 0) * 10 + x.size(0, 1), 10);
        Due.is("a column", x.insert(0, 1, 0), 1);
        Due.is("columns", x.size(0, 0) * 10 + x.size(0, 1), 11);
    }

    /** "Place: 0 to the number of such lines." */
    private static void insertPlace(int axis) {
        for (int lines = 0; lines < 4; lines++) {
            TrackedTable x = axis == 0 ? Tables.plain(lines, 6) : Tables.plain(6, lines);
            for (int wrong : new int[] {-1, lines + 1, 6, LOWEST, HIGHEST}) {
                Tables.refused(x, lines + " lines, place " + wrong, () -> x.insert(0, axis, wrong), -2);
            }
            int last = lines;
            Tables.act(x, lines + " lines, at the end", () -> x.insert(0, axis, last), 0);
            Tables.act(x, lines + " lines, ahead", () -> x.insert(0, axis, 0), 1);
        }
    }

    /** "Returns the number of the change, or UNTRACKED." */
    private static void insertAnswers() {
        TrackedTable x = Tables.made(5);
        Tables.act(x, "number 5", () -> x.insert(3, 0, 2), 5);
        x.track(false);
        Tables.act(x, "untracked", () -> x.insert(3, 1, 2), 1000);
    }

    /** "FULL if there are 12 rows, 8 columns, or (while changes are tracked) 60 changes were made." */
    private static void insertFull() {
        TrackedTable x = Tables.plain(11, 7);
        Tables.act(x, "12th row", () -> x.insert(0, 0, 11), 0);
        Tables.act(x, "8th column", () -> x.insert(0, 1, 7), 1);
        Tables.refused(x, "13th row", () -> x.insert(0, 0, 12), -3);
        Tables.refused(x, "9th column", () -> x.insert(0, 1, 8), -3);
        x.track(false);
        Tables.refused(x, "13th row, untracked", () -> x.insert(0, 0, 0), -3);
        Tables.refused(x, "9th column, untracked", () -> x.insert(0, 1, 0), -3);
        TrackedTable y = Tables.made(60);
        Tables.refused(y, "61st change", () -> y.insert(2, 0, 2), -3);
        y.track(false);
        Tables.act(y, "no 61st change is made", () -> y.insert(2, 0, 2), 1000);
    }

    /** "The order of the @return line is the order of the checks": UNKNOWN, BAD_VALUE, FULL. */
    private static void insertOrderOfErrors() {
        TrackedTable x = Tables.plain(12, 8);
        Tables.refused(x, "author before place", () -> x.insert(4, 0, 13), -1);
        Tables.refused(x, "axis before place", () -> x.insert(0, 2, -1), -1);
        Tables.refused(x, "author before room", () -> x.insert(-1, 0, 0), -1);
        Tables.refused(x, "place before room for rows", () -> x.insert(0, 0, 13), -2);
        Tables.refused(x, "place before room for columns", () -> x.insert(0, 1, 9), -2);
        TrackedTable y = Tables.made(60);
        Tables.refused(y, "place before room for changes", () -> y.insert(0, 0, 3), -2);
        Tables.refused(y, "axis before room for changes", () -> y.insert(0, -1, 0), -1);
    }

    // ---- promise 4

    /** "Place: its place", otherwise "UNKNOWN". */
    private static void removePlace(int axis) {
        TrackedTable x = axis == 0 ? Tables.plain(2, 5) : Tables.plain(5, 2);
        for (int tracked = 1; tracked >= 0; tracked--) {
            for (int wrong : new int[] {-1, 2, 4, LOWEST, HIGHEST}) {
                Tables.refused(x, "place " + wrong, () -> x.remove(0, axis, wrong), -1);
                Tables.refused(x, "axis " + (wrong < 2 ? wrong : 2),
                        () -> x.remove(0, wrong < 2 ? wrong : 2, 0), -1);
            }
            x.track(false);
        }
        x.track(true);
        Tables.act(x, "last place", () -> x.remove(0, axis, 1), 0);
        Tables.act(x, "first place", () -> x.remove(0, axis, 0), 1);
        TrackedTable y = new TrackedTable();
        Tables.refused(y, "no lines", () -> y.remove(0, axis, 0), -1);
    }

    /** "The number of the change (if the line goes at once as it is new: that of its insertion), or UNTRACKED." */
    private static void removeAnswers() {
        TrackedTable x = Tables.made(5);
        x.insert(2, 0, 0);
        Tables.act(x, "removal", () -> x.remove(2, 0, 2), 6);
        Tables.act(x, "own new line", () -> x.remove(2, 0, 0), 5);
        x.track(false);
        Tables.act(x, "untracked", () -> x.remove(2, 0, 0), 1000);
        Tables.act(x, "untracked, doomed", () -> x.remove(2, 0, 0), 1000);
    }

    /** "NOT_POSSIBLE if it is doomed and changes are tracked." */
    private static void removeDoomed() {
        for (int axis = 0; axis < 2; axis++) {
            int of = axis;
            TrackedTable x = Tables.plain(2, 2);
            x.remove(0, of, 1);
            Tables.refused(x, "doomed", () -> x.remove(0, of, 1), -4);
            x.track(false);
            Tables.act(x, "untracked", () -> x.remove(0, of, 1), 1000);
        }
    }

    /** "FULL if a change would be made, and 60 were made." */
    private static void removeFull() {
        TrackedTable x = Tables.made(58);
        x.insert(2, 0, 0);
        x.insert(3, 1, 0);
        Tables.refused(x, "a plain row", () -> x.remove(2, 0, 1), -3);
        Tables.refused(x, "another's new row", () -> x.remove(3, 0, 0), -3);
        Tables.refused(x, "another's new column", () -> x.remove(2, 1, 0), -3);
        Tables.act(x, "own new row", () -> x.remove(2, 0, 0), 58);
        Tables.act(x, "own new column", () -> x.remove(3, 1, 0), 59);
        x.track(false);
        Tables.act(x, "untracked", () -> x.remove(0, 0, 0), 1000);
        TrackedTable y = Tables.made(59);
        Tables.act(y, "the 60th", () -> y.remove(0, 0, 0), 59);
    }

    /** UNKNOWN, NOT_POSSIBLE, FULL. */
    private static void removeOrderOfErrors() {
        TrackedTable x = Tables.made(59);
        x.remove(0, 0, 0);
        Tables.refused(x, "author before doom", () -> x.remove(4, 0, 0), -1);
        Tables.refused(x, "doom before room", () -> x.remove(0, 0, 0), -4);
        Tables.refused(x, "place before room", () -> x.remove(0, 0, 2), -1);
    }

    // ---- promise 5

    /** "Row: the place of a row; column: the place of a column", otherwise "UNKNOWN". */
    private static void setPlaces() {
        TrackedTable x = Tables.plain(2, 3);
        for (int tracked = 1; tracked >= 0; tracked--) {
            for (int wrong : new int[] {-1, 3, LOWEST, HIGHEST}) {
                Tables.refused(x, "row " + wrong, () -> x.set(0, wrong, 0, 1), -1);
                Tables.refused(x, "column " + wrong, () -> x.set(0, 0, wrong, 1), -1);
            }
            Tables.refused(x, "row 2", () -> x.set(0, 2, 1, 1), -1);
            x.track(false);
        }
        Tables.act(x, "the last cell", () -> x.set(0, 1, 2, 1), 1000);
    }

    /** "Value: 0 to 9999", otherwise "BAD_VALUE". */
    private static void setValue() {
        TrackedTable x = Tables.made(1);
        for (int wrong : new int[] {-1, 10000, LOWEST, HIGHEST}) {
            Tables.refused(x, "value " + wrong, () -> x.set(0, 0, 0, wrong), -2);
        }
        Tables.act(x, "9999", () -> x.set(0, 0, 0, 9999), 0);
        Tables.act(x, "0 over another's", () -> x.set(1, 0, 0, 0), 1);
    }

    /** "The number of the change (that of the setting that gets the new value, or is dissolved), or UNTRACKED." */
    private static void setAnswers() {
        TrackedTable x = Tables.made(3);
        Tables.act(x, "the next one", () -> x.set(1, 0, 0, 50), 3);
        Tables.act(x, "it gets a new value", () -> x.set(1, 0, 0, 51), 3);
        Tables.act(x, "it is dissolved", () -> x.set(1, 0, 0, 3), 3);
        Tables.act(x, "the one below gets a new value", () -> x.set(0, 0, 0, 52), 2);
        x.track(false);
        Tables.act(x, "untracked", () -> x.set(0, 0, 0, 53), 1000);
    }

    /** "It has this value already (with its pending settings, whether changes are tracked or not)." */
    private static void setHasItAlready() {
        TrackedTable x = Tables.made(2);
        for (int tracked = 1; tracked >= 0; tracked--) {
            Tables.refused(x, "its setting's value, by its author", () -> x.set(1, 0, 0, 2), -4);
            Tables.refused(x, "its setting's value, by another", () -> x.set(2, 0, 0, 2), -4);
            Tables.refused(x, "the base value of a plain cell", () -> x.set(0, 1, 1, 0), -4);
            x.track(false);
        }
        Tables.act(x, "the base value under settings", () -> x.set(0, 0, 0, 0), 1000);
        Tables.refused(x, "the base value", () -> x.set(0, 0, 0, 0), -4);
        x.undo();
        Tables.act(x, "the lower setting's value", () -> x.set(0, 0, 0, 1), 1000);
    }

    /** "FULL if a change would be made, and 60 were made." */
    private static void setFull() {
        TrackedTable x = Tables.made(60);
        Tables.refused(x, "over another's", () -> x.set(0, 0, 0, 99), -3);
        Tables.refused(x, "a free cell", () -> x.set(1, 1, 1, 99), -3);
        Tables.act(x, "the latest gets a new value", () -> x.set(1, 0, 0, 99), 59);
        Tables.act(x, "the latest is dissolved", () -> x.set(1, 0, 0, 59), 59);
        Tables.refused(x, "over the one that is the latest now", () -> x.set(1, 0, 0, 99), -3);
        Tables.act(x, "the latest now", () -> x.set(0, 0, 0, 99), 58);
        x.track(false);
        Tables.act(x, "untracked", () -> x.set(1, 1, 1, 99), 1000);
        TrackedTable y = Tables.made(59);
        Tables.act(y, "the 60th", () -> y.set(3, 0, 0, 99), 59);
    }

    /** UNKNOWN, BAD_VALUE, NOT_POSSIBLE, FULL. */
    private static void setOrderOfErrors() {
        TrackedTable x = Tables.made(59);
        x.remove(0, 0, 1);
        Tables.refused(x, "author before value", () -> x.set(4, 0, 0, -1), -1);
        Tables.refused(x, "row before value", () -> x.set(0, 2, 0, 10000), -1);
        Tables.refused(x, "column before value", () -> x.set(0, 0, 2, 10000), -1);
        Tables.refused(x, "value before doom", () -> x.set(0, 1, 0, 10000), -2);
        Tables.refused(x, "value before room", () -> x.set(0, 0, 0, -1), -2);
        Tables.refused(x, "doom before room", () -> x.set(0, 1, 0, 5), -4);
        Tables.refused(x, "the same value before room", () -> x.set(1, 0, 0, 59), -4);
        Tables.refused(x, "room", () -> x.set(1, 0, 0, 58), -3);
    }

    // ---- promise 6

    /** "UNKNOWN": no change has this number (yet, or any more). */
    private static void acceptUnknown() {
        TrackedTable x = Tables.made(60);
        for (int wrong : new int[] {-1, 60, 61, LOWEST, HIGHEST}) {
            Tables.refused(x, "accept " + wrong, () -> x.accept(wrong), -1);
        }
        Tables.act(x, "the last one", () -> x.accept(59), 60);
        TrackedTable y = Tables.made(1);
        Tables.refused(y, "not made yet", () -> y.accept(1), -1);
        y.undo();
        Tables.refused(y, "undone", () -> y.accept(0), -1);
    }

    /** Makes accepted, rejected and dissolved changes: 0, 1 and 2; 3 is pending. */
    private static TrackedTable oneOfEachState() {
        TrackedTable x = Tables.plain(2, 2);
        x.set(0, 0, 0, 5);
        x.set(1, 0, 1, 5);
        x.set(2, 1, 0, 5);
        x.set(3, 1, 1, 5);
        x.accept(0);
        x.reject(1);
        x.set(2, 1, 0, 0);
        return x;
    }

    /** "NOT_POSSIBLE if it is not pending." */
    private static void acceptNotPending() {
        TrackedTable x = oneOfEachState();
        for (int number = 0; number < 3; number++) {
            int of = number;
            Due.is("state of " + of, x.change(of, 2), of + 1);
            Tables.refused(x, "accept the one of state " + (of + 1), () -> x.accept(of), -4);
        }
        Tables.act(x, "the pending one", () -> x.accept(3), 1);
        x.undo();
        Tables.act(x, "pending again by undo", () -> x.accept(3), 1);
    }

    /** "Returns the number of changes that are accepted by this": not of those that are dissolved by this. */
    private static void acceptAnswers() {
        TrackedTable x = Tables.plain(0, 0);
        x.insert(0, 0, 0);
        x.insert(0, 1, 0);
        x.set(0, 0, 0, 5);
        x.set(1, 0, 0, 6);
        x.remove(1, 0, 0);
        Tables.act(x, "one alone", () -> x.accept(1), 1);
        Tables.act(x, "with the row's insertion", () -> x.accept(2), 2);
        Tables.act(x, "a removal, one is dissolved", () -> x.accept(4), 1);
        Due.is("dissolved", x.change(3, 2), 3);
    }

    // ---- promise 7

    /** "UNKNOWN": no change has this number (yet, or any more). */
    private static void rejectUnknown() {
        TrackedTable x = Tables.made(60);
        for (int wrong : new int[] {-1, 60, 61, LOWEST, HIGHEST}) {
            Tables.refused(x, "reject " + wrong, () -> x.reject(wrong), -1);
        }
        Tables.act(x, "the first one, with all over it", () -> x.reject(0), 60);
        TrackedTable y = Tables.made(1);
        Tables.refused(y, "not made yet", () -> y.reject(1), -1);
        y.undo();
        Tables.refused(y, "undone", () -> y.reject(0), -1);
    }

    /** "NOT_POSSIBLE if it is not pending." */
    private static void rejectNotPending() {
        TrackedTable x = oneOfEachState();
        for (int number = 0; number < 3; number++) {
            int of = number;
            Tables.refused(x, "reject the one of state " + (of + 1), () -> x.reject(of), -4);
        }
        Tables.act(x, "the pending one", () -> x.reject(3), 1);
        x.undo();
        Tables.act(x, "pending again by undo", () -> x.reject(3), 1);
    }

    /** "Returns the number of changes that are rejected by this": what was settled before does not count. */
    private static void rejectAnswers() {
        TrackedTable x = Tables.plain(0, 1);
        x.insert(0, 0, 0);
        x.set(0, 0, 0, 5);
        x.set(1, 0, 0, 6);
        x.set(0, 0, 0, 7);
        x.remove(1, 0, 0);
        Tables.act(x, "the upper two", () -> x.reject(2), 2);
        Tables.act(x, "the insertion, the lowest setting and the removal", () -> x.reject(0), 3);
        Due.is("all rejected", x.count(3), 5);
        Due.is("the row is gone", x.size(0, 0), 0);
    }

    // ---- promise 8

    /** "Author: 0 to 3, or -1 for all authors", otherwise "UNKNOWN". */
    private static void settleAuthors() {
        TrackedTable x = Tables.plain(1, 4);
        for (int author = 0; author < 4; author++) {
            x.set(author, 0, author, 5);
        }
        for (int wrong : new int[] {-2, 4, LOWEST, HIGHEST}) {
            Tables.refused(x, "accept for " + wrong, () -> x.settle(wrong, true), -1);
            Tables.refused(x, "reject for " + wrong, () -> x.settle(wrong, false), -1);
        }
        for (int author = 0; author < 4; author++) {
            int of = author;
            Tables.act(x, "for " + of, () -> x.settle(of, of % 2 == 0), 1);
            Due.is("state of " + of, x.change(of, 2), of % 2 == 0 ? 1 : 2);
            Due.is("pending then", x.count(1), 3 - of);
        }
        x.undo();
        x.set(0, 0, 0, 9);
        Tables.act(x, "for all", () -> x.settle(-1, true), 2);
    }

    /** "NOT_POSSIBLE if there are none that are pending." */
    private static void settleNonePending() {
        TrackedTable x = Tables.made(3);
        Tables.refused(x, "none by this author", () -> x.settle(2, true), -4);
        Tables.refused(x, "none by this author to reject", () -> x.settle(3, false), -4);
        x.settle(-1, true);
        for (int author = -1; author < 4; author++) {
            int of = author;
            Tables.refused(x, "none any more by " + of, () -> x.settle(of, false), -4);
        }
        TrackedTable y = new TrackedTable();
        Tables.refused(y, "none made", () -> y.settle(-1, true), -4);
        Tables.refused(y, "author before none", () -> y.settle(4, true), -1);
    }

    /** "Again and again the pending one with the lowest number": what this dissolves is pending no more. */
    private static void settleLowestAgainAndAgain() {
        TrackedTable x = Tables.plain(2, 1);
        x.set(0, 0, 0, 5);
        x.remove(0, 0, 0);
        x.reject(1);
        x.set(1, 0, 0, 6);
        x.remove(1, 0, 0);
        x.set(1, 1, 0, 7);
        Tables.act(x, "the setting that rests, the removal, the other setting", () -> x.settle(1, true), 4);
        Due.is("the row is gone", x.size(0, 0), 1);
        Due.is("the value of the other", x.cell(2, 0, 0), 7);
        TrackedTable y = Tables.plain(2, 1);
        y.remove(0, 0, 0);
        y.reject(0);
        y.insert(1, 1, 0);
        y.remove(1, 0, 0);
        Tables.act(y, "the removal after an insertion", () -> y.settle(1, true), 2);
        TrackedTable z = Tables.plain(1, 2);
        z.insert(0, 0, 1);
        z.set(1, 1, 0, 5);
        z.set(1, 1, 1, 5);
        z.remove(0, 1, 0);
        Tables.act(z, "insertion and removal, one setting is dissolved", () -> z.settle(0, true), 2);
        Due.is("dissolved", z.change(1, 2), 3);
        Due.is("pending still", z.change(2, 2), 0);
    }

    /** "The number of changes (of whichever author) that are accepted, or rejected, by this." */
    private static void settleAnswers() {
        TrackedTable x = Tables.made(60);
        Tables.act(x, "accepts the other author's below the last", () -> x.settle(1, true), 60);
        x.undo();
        Tables.act(x, "accepts all but the last", () -> x.settle(0, true), 59);
        x.undo();
        Tables.act(x, "rejects all but the first", () -> x.settle(1, false), 59);
        x.undo();
        Tables.act(x, "rejects all", () -> x.settle(-1, false), 60);
    }
}
