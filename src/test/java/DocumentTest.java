/**
 * The document from its first line to its last: one test for each sentence that tells what a call
 * does in the ordinary case. Sentences that name a boundary case are in the *BoundaryTest classes.
 */
public final class DocumentTest {
    public static void main(String[] args) {
        tableAndCells();
        kindsAuthorsStates();
        newAndDoomed();
        baseValueAndSettings();
        views();
        insertAndRemoveMake();
        setMakes();
        untrackedAtOnce();
        resting();
        acceptedInsertion();
        acceptedRemoval();
        acceptedSetting();
        rejectedInsertion();
        rejectedRemoval();
        rejectedSetting();
        ordersOfAText();
        historyAndUndo();
        errorsAreConstants();
        answersOfChanges();
        answersOfSettle();
        readingOrder();
        counts();
        Due.finish();
    }

    /** Rows "r", columns "c", and a setting of cell 0, 0 by author 2, which are changes 0 to 2. */
    private static TrackedTable oneOfEach() {
        TrackedTable x = new TrackedTable();
        Due.is("a row", x.insert(0, 0, 0), 0);
        Due.is("a column", x.insert(1, 1, 0), 1);
        Due.is("a setting", x.set(2, 0, 0, 7), 2);
        return x;
    }

    // ---- terms

    /** "The table has rows and columns, together called lines; at first there are none." */
    private static void tableAndCells() {
        TrackedTable x = new TrackedTable();
        Due.is("rows at first", x.size(0, 0), 0);
        Due.is("columns at first", x.size(0, 1), 0);
        x.insert(0, 0, 0);
        x.insert(0, 0, 0);
        x.insert(0, 1, 0);
        Due.is("rows", x.size(0, 0), 2);
        Due.is("columns", x.size(0, 1), 1);
        Due.is("a cell of new lines", x.cell(0, 1, 0), 0);
    }

    /** "A change has a kind (0 insertion of a row, 1 removal of a row, 2 insertion of a column, 3 removal of a column, 4 setting of a cell), an author, and a state." */
    private static void kindsAuthorsStates() {
        TrackedTable x = oneOfEach();
        x.remove(3, 0, 0);
        x.remove(2, 1, 0);
        int[] kinds = {0, 2, 4, 1, 3};
        int[] authors = {0, 1, 2, 3, 2};
        for (int n = 0; n < 5; n++) {
            Due.is("kind of " + n, x.change(n, 0), kinds[n]);
            Due.is("author of " + n, x.change(n, 1), authors[n]);
            Due.is("state of " + n, x.change(n, 2), 0);
        }
        x.accept(0);
        x.reject(4);
        x.track(false);
        x.remove(0, 0, 0);
        int[] states = {1, 0, 3, 3, 2};
        for (int n = 0; n < 5; n++) {
            Due.is("state then of " + n, x.change(n, 2), states[n]);
        }
    }

    /** "A line whose insertion is pending is a new line; one whose removal is pending is a doomed line (a line can be both)." */
    private static void newAndDoomed() {
        TrackedTable x = Tables.plain(3, 1);
        x.insert(0, 0, 0);
        x.remove(0, 0, 2);
        x.insert(0, 0, 4);
        x.remove(1, 0, 4);
        int[] insertions = {0, -5, -5, -5, 2};
        int[] removals = {-5, -5, 1, -5, 3};
        for (int place = 0; place < 5; place++) {
            Due.is("new at " + place, x.line(0, place, 0), insertions[place]);
            Due.is("doomed at " + place, x.line(0, place, 1), removals[place]);
        }
        Due.is("new lines", x.count(6), 2);
        Due.is("doomed lines", x.count(7), 2);
    }

    /** "A cell has a base value, and perhaps pending settings, one over another, each with its value; its value is that of the latest pending setting, or the base value if there is none." */
    private static void baseValueAndSettings() {
        TrackedTable x = Tables.plain(1, 1);
        x.track(false);
        x.set(0, 0, 0, 10);
        x.track(true);
        Due.is("the base value", x.cell(0, 0, 0), 10);
        x.set(0, 0, 0, 20);
        x.set(1, 0, 0, 30);
        x.set(2, 0, 0, 40);
        for (int level = 0; level < 3; level++) {
            Due.is("setting " + level, x.setting(0, 0, level), level);
            Due.is("its value", x.change(level, 5), 20 + 10 * level);
            Due.is("the value below it", x.change(level, 6), 10 + 10 * level);
        }
        Due.is("the latest one's value", x.cell(0, 0, 0), 40);
        x.reject(2);
        Due.is("the latest pending one's value", x.cell(0, 0, 0), 30);
        Due.is("the base value stays", x.cell(2, 0, 0), 10);
    }

    /** "The full view (0) shows all lines. The clean view (1) shows all lines that are not doomed, with the values of cells. The old view (2) shows all lines that are not new, with the base values of cells." */
    private static void views() {
        TrackedTable x = Tables.plain(2, 2);
        x.track(false);
        for (int row = 0; row < 2; row++) {
            for (int column = 0; column < 2; column++) {
                x.set(0, row, column, 1 + 2 * row + column);
            }
        }
        x.track(true);
        x.insert(0, 0, 1);
        x.insert(0, 1, 2);
        x.remove(1, 0, 0);
        x.set(0, 1, 0, 100);
        x.set(0, 2, 1, 40);
        view(x, 0, new int[][] {{1, 2, 0}, {100, 0, 0}, {3, 40, 0}});
        view(x, 1, new int[][] {{100, 0, 0}, {3, 40, 0}});
        view(x, 2, new int[][] {{1, 2}, {3, 4}});
        int[] clean = {-5, 0, 1};
        int[] old = {0, -5, 1};
        for (int place = 0; place < 3; place++) {
            Due.is("row " + place + " in the clean view", x.line(0, place, 2), clean[place]);
            Due.is("row " + place + " in the old view", x.line(0, place, 3), old[place]);
        }
    }

    private static void view(TrackedTable x, int view, int[][] shown) {
        Due.is("rows in view " + view, x.size(view, 0), shown.length);
        Due.is("columns in view " + view, x.size(view, 1), shown[0].length);
        int sum = 0;
        for (int row = 0; row < shown.length; row++) {
            for (int column = 0; column < shown[row].length; column++) {
                String cell = "cell " + row + ", " + column + " in view " + view;
                Due.is(cell, x.cell(view, row, column), shown[row][column]);
                sum += shown[row][column];
            }
        }
        Due.is("sum of view " + view, x.sum(view), sum);
    }

    // ---- making changes

    /** "To insert a line makes a new line at a place; the lines from there on move on. To remove a line makes it doomed." */
    private static void insertAndRemoveMake() {
        for (int axis = 0; axis < 2; axis++) {
            TrackedTable x = new TrackedTable();
            Due.is("the first", x.insert(0, axis, 0), 0);
            Due.is("after it", x.insert(0, axis, 1), 1);
            Due.is("between them", x.insert(0, axis, 1), 2);
            Due.is("removed by another", x.remove(1, axis, 2), 3);
            int[] insertions = {0, 2, 1};
            for (int place = 0; place < 3; place++) {
                Due.is("new at " + place, x.line(axis, place, 0), insertions[place]);
                Due.is("doomed at " + place, x.line(axis, place, 1), place == 2 ? 3 : -5);
                Due.is("place of " + insertions[place], x.change(insertions[place], 3 + axis), place);
                Due.is("no other line", x.change(insertions[place], 4 - axis), -5);
            }
        }
    }

    /** "To set a cell makes a setting, which is pending." */
    private static void setMakes() {
        TrackedTable x = Tables.plain(2, 3);
        Due.is("set", x.set(3, 1, 2, 9999), 0);
        int[] told = {4, 3, 0, 1, 2, 9999, 0, 0, 0};
        for (int what = 0; what < told.length; what++) {
            Due.is("change(0, " + what + ")", x.change(0, what), told[what]);
        }
        Due.is("the cell", x.cell(0, 1, 2), 9999);
        Due.is("its base value", x.cell(2, 1, 2), 0);
    }

    /** "While changes are not tracked, the same is done at once, for good." */
    private static void untrackedAtOnce() {
        TrackedTable x = new TrackedTable();
        Due.is("track", x.track(false), 0);
        Due.is("insert", x.insert(0, 0, 0), 1000);
        Due.is("insert", x.insert(1, 1, 0), 1000);
        Due.is("set", x.set(2, 0, 0, 5), 1000);
        Due.is("in the old view", x.cell(2, 0, 0), 5);
        Due.is("no setting", x.setting(0, 0, 0), -5);
        Due.is("remove", x.remove(3, 0, 0), 1000);
        Due.is("rows", x.size(0, 0), 0);
        Due.is("no change made", x.count(0), 0);
    }

    // ---- resting

    /** "A pending change rests on these pending changes directly: a setting on the insertion of its row and that of its column, and on the pending setting right below it; a removal on the insertion of its line. It rests on those, on what they rest on, and so on." */
    private static void resting() {
        TrackedTable x = oneOfEach();
        x.set(3, 0, 0, 8);
        x.set(0, 0, 0, 9);
        x.remove(2, 0, 0);
        x.remove(2, 1, 0);
        String[] rests = {"", "", "0 1", "0 1 2", "0 1 2 3", "0", "1"};
        for (int one = 0; one < 7; one++) {
            for (int other = 0; other < 7; other++) {
                if (one != other) {
                    int want = rests[one].contains("" + other) ? 1 : 0;
                    Due.is(one + " on " + other, x.restsOn(one, other), want);
                }
            }
            Due.is(one + " rests on", x.change(one, 7), (rests[one].length() + 1) / 2);
        }
        int[] resting = {4, 4, 2, 1, 0, 0, 0};
        for (int n = 0; n < 7; n++) {
            Due.is("rest on " + n, x.change(n, 8), resting[n]);
        }
    }

    // ---- accepting and rejecting

    /** "An insertion that is accepted leaves a line that is not new." */
    private static void acceptedInsertion() {
        TrackedTable x = oneOfEach();
        Due.is("accept", x.accept(0), 1);
        Due.is("not new", x.line(0, 0, 0), -5);
        Due.is("in the old view", x.size(2, 0), 1);
        Due.is("the setting stays", x.change(2, 2), 0);
        Due.is("its place is told still", x.change(0, 3), 0);
    }

    /** "A removal that is accepted removes the line, and the pending settings of its cells are dissolved." */
    private static void acceptedRemoval() {
        TrackedTable x = oneOfEach();
        Due.is("remove", x.remove(2, 0, 0), 3);
        Due.is("accept, with the insertion", x.accept(3), 2);
        Due.is("no row", x.size(0, 0), 0);
        Due.is("the insertion", x.change(0, 2), 1);
        Due.is("the setting", x.change(2, 2), 3);
        Due.is("the removal", x.change(3, 2), 1);
        Due.is("the column stays", x.change(1, 2), 0);
        Due.is("the row is gone", x.change(2, 3), -5);
        Due.is("the column is not", x.change(2, 4), 0);
    }

    /** "A setting that is accepted makes its value the base value." */
    private static void acceptedSetting() {
        TrackedTable x = oneOfEach();
        x.set(1, 0, 0, 8);
        x.set(0, 0, 0, 9);
        Due.is("accept, with those on which it rests", x.accept(3), 4);
        Due.is("the base value", x.cell(2, 0, 0), 8);
        Due.is("the value", x.cell(0, 0, 0), 9);
        Due.is("the one above stays", x.change(4, 2), 0);
        Due.is("with the base value below it", x.change(4, 6), 8);
    }

    /** "An insertion that is rejected removes the line", and all that rests on it is rejected, too. */
    private static void rejectedInsertion() {
        TrackedTable x = oneOfEach();
        x.remove(2, 1, 0);
        Due.is("reject", x.reject(1), 3);
        Due.is("no column", x.size(0, 1), 0);
        Due.is("the row stays", x.size(0, 0), 1);
        Due.is("the setting", x.change(2, 2), 2);
        Due.is("the removal", x.change(3, 2), 2);
        Due.is("the row's insertion", x.change(0, 2), 0);
    }

    /** "A removal that is rejected leaves the line, which is not doomed any more." */
    private static void rejectedRemoval() {
        TrackedTable x = oneOfEach();
        x.remove(2, 0, 0);
        Due.is("reject", x.reject(3), 1);
        Due.is("not doomed", x.line(0, 0, 1), -5);
        Due.is("in the clean view", x.size(1, 0), 1);
        Due.is("new still", x.line(0, 0, 0), 0);
        Due.is("its cells can be set", x.set(2, 0, 0, 8), 2);
    }

    /** "A setting that is rejected goes, the ones below it stay." */
    private static void rejectedSetting() {
        TrackedTable x = oneOfEach();
        x.set(1, 0, 0, 8);
        x.set(0, 0, 0, 9);
        Due.is("reject, with the one above", x.reject(3), 2);
        Due.is("the value", x.cell(0, 0, 0), 7);
        Due.is("the one below", x.setting(0, 0, 0), 2);
        Due.is("no other", x.setting(0, 0, 1), -5);
        Due.is("its value is told still", x.change(3, 5), 8);
    }

    // ---- orders, history, errors

    /** "+r" or "+c", directly followed by a place (insert a row or a column), "-r" or "-c", directly followed by a place (remove one), or a row, ".", a column, "=" and a value (set a cell)." */
    private static void ordersOfAText() {
        TrackedTable x = new TrackedTable();
        Due.is("insert", Tables.runText(x, 0, "+r0 +r1 +c0 +c1"), 4);
        Due.is("rows", x.size(0, 0), 2);
        Due.is("columns", x.size(0, 1), 2);
        Due.is("set", Tables.runText(x, 1, "1.0=12"), 1);
        Due.is("the cell", x.cell(0, 1, 0), 12);
        Due.is("its author", x.change(4, 1), 1);
        Due.is("remove", Tables.runText(x, 2, "-r0 -c1"), 2);
        Due.is("row 0", x.line(0, 0, 1), 5);
        Due.is("column 1", x.line(1, 1, 1), 6);
        Due.is("the length it had", x.clearText(), 7);
        Due.is("appended", x.type('-'), 1);
        Due.is("length", x.count(10), 1);
        Due.is("fault", x.run(0), -101);
    }

    /** "Restores the latest state of the history. Returns the number of states that are left." */
    private static void historyAndUndo() {
        TrackedTable x = oneOfEach();
        Due.is("states", x.count(9), 3);
        Due.is("undo the setting", x.undo(), 2);
        Due.is("the cell", x.cell(0, 0, 0), 0);
        Due.is("changes made", x.count(0), 2);
        Due.is("the next number again", x.set(3, 0, 0, 9), 2);
        Due.is("by the other author", x.change(2, 1), 3);
        for (int left = 2; left >= 0; left--) {
            Due.is("undo", x.undo(), left);
        }
        Due.is("nothing", x.size(0, 0) + x.size(0, 1) + x.count(0), 0);
    }

    /** "Errors are reported by the constants below." */
    private static void errorsAreConstants() {
        TrackedTable x = Tables.plain(1, 1);
        Due.is("there is no such line", x.line(0, 1, 0), TrackedTable.UNKNOWN);
        Due.is("no such cell", x.cell(0, 0, 1), TrackedTable.UNKNOWN);
        Due.is("no such change", x.change(0, 0), TrackedTable.UNKNOWN);
        Due.is("no such author", x.author(4, 0), TrackedTable.UNKNOWN);
        Due.is("no such axis", x.size(0, 2), TrackedTable.UNKNOWN);
        Due.is("no such view", x.sum(3), TrackedTable.UNKNOWN);
        Due.is("another argument is out of range", x.count(11), TrackedTable.BAD_VALUE);
        Due.is("this is not possible", x.track(true), TrackedTable.NOT_POSSIBLE);
        Due.is("there is no such thing", x.pending(0), TrackedTable.NONE);
        Tables.write(x, "x".repeat(60));
        Due.is("there is no more room", x.type('x'), TrackedTable.FULL);
        x.track(false);
        Due.is("stands for the number of a change", x.insert(0, 0, 0), TrackedTable.UNTRACKED);
    }

    // ---- promises

    /** Promises 2 to 7: the numbers that the acts answer. */
    private static void answersOfChanges() {
        TrackedTable x = oneOfEach();
        Due.is("track: pending changes", x.track(false), 3);
        Due.is("track: back", x.track(true), 3);
        Due.is("remove: the insertion's number", x.remove(0, 0, 0), 0);
        Due.is("track: those that are left", x.track(false), 1);
        TrackedTable y = oneOfEach();
        Due.is("set: the number of the setting that gets the value", y.set(2, 0, 0, 8), 2);
        Due.is("set: that of the one that is dissolved", y.set(2, 0, 0, 0), 2);
        Due.is("set: a new one", y.set(2, 0, 0, 8), 3);
        Due.is("accept: this and two more", y.accept(3), 3);
        Due.is("reject: no change", y.reject(4), -1);
    }

    /** "Accepts or rejects all changes of an author: again and again the pending one with the lowest number." */
    private static void answersOfSettle() {
        TrackedTable x = oneOfEach();
        Due.is("the setting, with what it rests on", x.settle(2, true), 3);
        Due.is("none left of this author", x.settle(2, true), -4);
        Due.is("nor of the others", x.settle(-1, false), -4);
        x = oneOfEach();
        Due.is("the column, with the setting", x.settle(1, false), 2);
        Due.is("all others", x.settle(-1, true), 1);
        Due.is("accepted", x.count(2), 1);
        Due.is("rejected", x.count(3), 2);
        x = oneOfEach();
        x.remove(2, 0, 0);
        Due.is("the setting is accepted before the removal", x.settle(2, true), 4);
        x = oneOfEach();
        x.remove(1, 0, 0);
        Due.is("the setting goes with its row, uncounted", x.settle(1, true), 3);
        Due.is("it is dissolved", x.change(2, 2), 3);
    }

    /** "First changes of rows (insertions and removals among one another), then those of columns (likewise), then settings; then by the places of rows, then by those of columns, then by numbers." */
    private static void readingOrder() {
        TrackedTable x = Tables.plain(2, 2);
        x.set(0, 1, 1, 1);
        x.set(0, 1, 0, 1);
        x.set(1, 0, 1, 1);
        x.set(2, 1, 0, 2);
        x.remove(0, 1, 1);
        x.insert(0, 1, 0);
        x.remove(0, 0, 1);
        x.insert(0, 0, 0);
        x.remove(1, 1, 0);
        int[] order = {7, 6, 5, 8, 4, 2, 1, 3, 0};
        for (int place = 0; place < order.length; place++) {
            Due.is("pending(" + place + ")", x.pending(place), order[place]);
        }
        Due.is("no more", x.pending(order.length), -5);
    }

    /** "0 for the number of changes that were made, 1 for pending ones, 2 for accepted, 3 for rejected, 4 for dissolved ones, 5 for whether changes are tracked (1, otherwise 0), 6 for new lines, 7 for doomed lines, 8 for pending settings, 9 for the states in the history, 10 for the length of the text." */
    private static void counts() {
        TrackedTable x = oneOfEach();
        x.insert(0, 1, 1);
        x.insert(0, 1, 2);
        x.set(1, 0, 1, 4);
        x.set(2, 0, 2, 5);
        x.set(3, 0, 2, 6);
        x.remove(3, 1, 0);
        x.accept(1);
        x.reject(5);
        x.remove(0, 1, 2);
        x.insert(1, 1, 0);
        Tables.write(x, "+r0 +c0");
        int[] want = {10, 5, 1, 1, 3, 1, 3, 1, 1, 4, 7};
        for (int what = 0; what < want.length; what++) {
            Due.is("count(" + what + ")", x.count(what), want[what]);
        }
        int[][] ofAuthors = {{2, 0, 0, 1}, {1, 1, 1, 0}, {1, 0, 0, 1}, {1, 0, 0, 1}};
        for (int author = 0; author < 4; author++) {
            for (int state = 0; state < 4; state++) {
                Due.is("author(" + author + ", " + state + ")", x.author(author, state), ofAuthors[author][state]);
            }
        }
    }
}
