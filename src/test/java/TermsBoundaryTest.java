/** The boundary cases that the document's Terms name: each test quotes the sentence that it is for. */
public final class TermsBoundaryTest {
    private static final int[] MOST = {12, 8};

    public static void main(String[] args) {
        call512();
        noLinesAtFirst();
        mostLines(0);
        mostLines(1);
        roomAfterALineWent(0);
        roomAfterALineWent(1);
        doomedLinesTakeRoom(0);
        doomedLinesTakeRoom(1);
        valuesFrom0To9999();
        newLinesHaveZero(0);
        newLinesHaveZero(1);
        linesAreToldInTheFullView();
        fourAuthors();
        trackedAtFirst();
        numbersFrom0();
        untrackedTakesNoNumber();
        most60Changes();
        kindsAndStates();
        aLineCanBeBoth();
        latestPendingSettingOrBase();
        fullViewShowsAll();
        cleanViewWithoutDoomed();
        oldViewWithoutNew();
        linesFromThereMoveOn();
        linesBehindAGoneOneMoveUp(0);
        linesBehindAGoneOneMoveUp(1);
        ownNewLineGoesAtOnce(0);
        ownNewLineGoesAtOnce(1);
        onlyIfNewAndByTheSameAuthor();
        sameAuthorsLatestSetting();
        valueBelowDissolves();
        noCellOfADoomedLine();
        notDoomedAgain(0);
        notDoomedAgain(1);
        untrackedInsertion();
        untrackedRemoval(0);
        untrackedRemoval(1);
        untrackedSetting();
        settingRestsDirectly();
        restsOnAndSoOn();
        removalRestsOnItsInsertion();
        onlyPendingOnesRest();
        acceptingWithSupports();
        acceptedRemoval(0);
        acceptedRemoval(1);
        rejectingWithDependents();
        rejectedSettingLeavesThoseBelow();
        Due.finish();
    }

    // ---- Table

    /** "An object is used for at most 512 calls": the 512th still answers as is due. */
    private static void call512() {
        TrackedTable x = new TrackedTable();
        int wrong = 0;
        for (int i = 0; i < 255; i++) {
            wrong += x.insert(i % 4, i % 2, 0) == 0 ? 0 : 1;
            wrong += x.undo() == 0 ? 0 : 1;
        }
        Due.is("call 1 to 510, wrong ones", wrong, 0);
        Due.is("call 511", x.insert(0, 1, 0), 0);
        Due.is("call 512", x.size(0, 1), 1);
    }

    /** "At first there are none." */
    private static void noLinesAtFirst() {
        TrackedTable x = new TrackedTable();
        for (int axis = 0; axis < 2; axis++) {
            Due.is("lines at first", x.size(0, axis), 0);
            Due.is("line 0 at first", x.line(axis, 0, 0), -1);
        }
        Due.is("cell at first", x.cell(0, 0, 0), -1);
        Due.is("row without a column has no cell", x.insert(0, 0, 0) + x.cell(0, 0, 0), -1);
    }

    /** "It can have at most 12 rows and 8 columns." */
    private static void mostLines(int axis) {
        for (int tracked = 0; tracked < 2; tracked++) {
            TrackedTable x = new TrackedTable();
            x.track(tracked == 1);
            for (int i = 0; i < MOST[axis]; i++) {
                Due.is("axis " + axis + " line " + i, x.insert(0, axis, i), tracked == 1 ? i : 1000);
            }
            Due.is("axis " + axis + " size", x.size(0, axis), MOST[axis]);
            Tables.refused(x, "axis " + axis + " one more at the front", () -> x.insert(0, axis, 0), -3);
            Tables.refused(x, "axis " + axis + " one more at the end", () -> x.insert(0, axis, MOST[axis]), -3);
            Due.is("axis " + axis + " last line", x.line(axis, MOST[axis] - 1, 2), MOST[axis] - 1);
            Due.is("axis " + axis + " line after the last", x.line(axis, MOST[axis], 2), -1);
            Due.is("the other axis has room", x.insert(0, 1 - axis, 0), tracked == 1 ? MOST[axis] : 1000);
        }
    }

    private static TrackedTable fullOf(int axis) {
        return axis == 0 ? Tables.plain(12, 1) : Tables.plain(1, 8);
    }

    /** "At most": when a line is gone there is room for one, and for one only. */
    private static void roomAfterALineWent(int axis) {
        for (int way = 0; way < 4; way++) {
            TrackedTable x = fullOf(axis);
            if (way == 0) {
                x.remove(0, axis, 3);
                Due.is("removal accepted", x.accept(0), 1);
            } else {
                x.track(false);
                Due.is("removed untracked", x.remove(0, axis, 3), 1000);
                x.track(true);
                Due.is("room", x.insert(1, axis, 3), 0);
                Due.is("full again", x.insert(1, axis, 3), -3);
                if (way == 1) {
                    Due.is("own new line goes", x.remove(1, axis, 3), 0);
                } else if (way == 2) {
                    Due.is("insertion rejected", x.reject(0), 1);
                } else {
                    Due.is("insertion undone", x.undo() >= 0 ? 1 : 0, 1);
                }
            }
            Due.is("axis " + axis + " one less, way " + way, x.size(0, axis), MOST[axis] - 1);
            Due.is("axis " + axis + " room, way " + way, x.insert(2, axis, MOST[axis] - 1) >= 0 ? 1 : 0, 1);
            Due.is("axis " + axis + " full, way " + way, x.insert(2, axis, 0), -3);
        }
    }

    /** A line that is doomed is one of the 12 or 8 still. */
    private static void doomedLinesTakeRoom(int axis) {
        TrackedTable x = fullOf(axis);
        Due.is("doomed", x.remove(0, axis, 0), 0);
        Due.is("axis " + axis + " no room beside a doomed line", x.insert(0, axis, 0), -3);
        Due.is("axis " + axis + " clean size", x.size(1, axis), MOST[axis] - 1);
    }

    /** "Each cell has a value from 0 to 9999." */
    private static void valuesFrom0To9999() {
        for (int tracked = 0; tracked < 2; tracked++) {
            TrackedTable x = Tables.plain(1, 1);
            x.track(tracked == 1);
            int number = tracked == 1 ? 0 : 1000;
            Tables.refused(x, "value 10000", () -> x.set(0, 0, 0, 10000), -2);
            Due.is("value 9999", x.set(0, 0, 0, 9999), number);
            Due.is("9999 told", x.cell(1, 0, 0), 9999);
            Tables.refused(x, "value -1", () -> x.set(0, 0, 0, -1), -2);
            Due.is("value 0", x.set(0, 0, 0, 0), number);
            Due.is("0 told", x.cell(1, 0, 0), 0);
        }
    }

    /** "Cells of new lines have 0", whatever line was at this place, or went, before. */
    private static void newLinesHaveZero(int axis) {
        for (int way = 0; way < 4; way++) {
            TrackedTable x = Tables.plain(2, 2);
            x.track(false);
            for (int cell = 0; cell < 4; cell++) {
                x.set(0, cell / 2, cell % 2, 10 + cell);
            }
            x.track(way != 0);
            if (way == 0) {
                x.remove(0, axis, 1);
            } else if (way == 1) {
                x.remove(0, axis, 1);
                x.accept(0);
            } else {
                x.insert(0, axis, 2);
                x.set(0, axis == 0 ? 2 : 0, axis == 0 ? 0 : 2, 77);
                x.accept(1);
                x.undo();
                if (way == 2) {
                    x.reject(0);
                } else {
                    x.remove(0, axis, 2);
                }
                Due.is("the line is gone again", x.size(0, axis), 2);
            }
            int sum = x.sum(0);
            int oldSum = x.sum(2);
            for (int place = x.size(0, axis); place >= 0; place--) {
                x.insert(0, axis, place);
                Due.is("axis " + axis + " way " + way + " sum with a new line", x.sum(0), sum);
                Due.is("axis " + axis + " way " + way + " old sum", x.sum(2), oldSum);
                Due.is("axis " + axis + " way " + way + " no settings", x.line(axis, place, 4), 0);
                Due.is("axis " + axis + " way " + way + " cell of the new line",
                        axis == 0 ? x.cell(0, place, 0) : x.cell(0, 0, place), 0);
            }
        }
    }

    /** "Lines are told by their places, from 0, in the full view." */
    private static void linesAreToldInTheFullView() {
        TrackedTable x = Tables.plain(2, 2);
        x.insert(0, 0, 0);
        x.remove(1, 0, 1);
        x.insert(0, 1, 0);
        x.remove(1, 1, 1);
        Due.is("set behind a new and a doomed line", x.set(2, 2, 2, 5), 4);
        Due.is("full view", x.cell(0, 2, 2), 5);
        Due.is("clean view", x.cell(1, 1, 1), 5);
        Due.is("setting", x.setting(2, 2, 0), 4);
        Due.is("its row", x.change(4, 3), 2);
        Due.is("its column", x.change(4, 4), 2);
        Due.is("removed by the place in the full view", x.remove(3, 0, 2), 5);
        Due.is("doomed", x.line(0, 2, 1), 5);
        Due.is("no place 3", x.remove(3, 0, 3), -1);
        Due.is("inserted at the end of the full view", x.insert(3, 0, 3), 6);
    }

    // ---- Changes

    /** "There are four authors, 0 to 3." */
    private static void fourAuthors() {
        TrackedTable x = Tables.plain(1, 1);
        for (int author = 0; author < 4; author++) {
            Due.is("author " + author, x.author(author, 0), 0);
            Due.is("inserts as " + author, x.insert(author, 0, 0), author);
            Due.is("is told", x.change(author, 1), author);
        }
        for (int wrong : new int[] {-1, 4, -2, Integer.MIN_VALUE, Integer.MAX_VALUE}) {
            Tables.refused(x, "insert as " + wrong, () -> x.insert(wrong, 0, 0), -1);
            Tables.refused(x, "remove as " + wrong, () -> x.remove(wrong, 0, 0), -1);
            Tables.refused(x, "set as " + wrong, () -> x.set(wrong, 0, 0, 1), -1);
            Tables.refused(x, "author " + wrong, () -> x.author(wrong, 0), -1);
            Tables.write(x, "+r0");
            Tables.refused(x, "run as " + wrong, () -> x.run(wrong), -1);
            if (wrong != -1) {
                Tables.refused(x, "settle for " + wrong, () -> x.settle(wrong, true), -1);
            }
            x.track(false);
            Tables.refused(x, "untracked insert as " + wrong, () -> x.insert(wrong, 0, 0), -1);
            Tables.refused(x, "untracked remove as " + wrong, () -> x.remove(wrong, 0, 0), -1);
            Tables.refused(x, "untracked set as " + wrong, () -> x.set(wrong, 0, 0, 1), -1);
            x.track(true);
        }
    }

    /** "While changes are tracked (at first they are)". */
    private static void trackedAtFirst() {
        TrackedTable x = new TrackedTable();
        Due.is("tracked", x.count(5), 1);
        Tables.refused(x, "so already", () -> x.track(true), -4);
        Due.is("number", x.insert(0, 0, 0), 0);
    }

    /** "Each change gets the next number, from 0." */
    private static void numbersFrom0() {
        TrackedTable x = Tables.plain(1, 1);
        Due.is("insertion of a row", x.insert(0, 0, 1), 0);
        Due.is("insertion of a column", x.insert(0, 1, 1), 1);
        Due.is("setting", x.set(0, 0, 0, 5), 2);
        Due.is("set again: no new number", x.set(0, 0, 0, 6), 2);
        Due.is("removal of a row", x.remove(0, 0, 0), 3);
        Due.is("removal of a column", x.remove(1, 1, 0), 4);
        Due.is("own new row goes: no new number", x.remove(0, 0, 1), 0);
        Due.is("accepting takes no number", x.accept(3), 1);
        Due.is("next number", x.insert(0, 0, 0), 5);
        Due.is("made", x.count(0), 6);
        x.undo();
        Due.is("the number is free when it is undone", x.insert(3, 1, 0), 5);
    }

    /** "While changes are tracked ... each change gets the next number." */
    private static void untrackedTakesNoNumber() {
        TrackedTable x = Tables.plain(1, 1);
        x.insert(0, 0, 0);
        x.track(false);
        Due.is("untracked insertion", x.insert(0, 0, 0), 1000);
        Due.is("untracked setting", x.set(0, 0, 0, 5), 1000);
        Due.is("untracked removal", x.remove(0, 0, 0), 1000);
        Due.is("none made", x.count(0), 1);
        x.track(true);
        Due.is("the next number", x.set(0, 0, 0, 5), 1);
    }

    /** "At most 60 changes can be made." */
    private static void most60Changes() {
        TrackedTable x = Tables.made(59);
        Due.is("the 60th", x.set(1, 1, 1, 5), 59);
        Due.is("is told", x.change(59, 5), 5);
        Due.is("made", x.count(0), 60);
        Due.is("number 60", x.change(60, 0), -1);
        Tables.refused(x, "61st, a row", () -> x.insert(0, 0, 0), -3);
        Tables.refused(x, "61st, a column", () -> x.insert(0, 1, 0), -3);
        Tables.refused(x, "61st, a removal of a row", () -> x.remove(0, 0, 0), -3);
        Tables.refused(x, "61st, a removal of a column", () -> x.remove(0, 1, 1), -3);
        Tables.refused(x, "61st, a setting of a free cell", () -> x.set(0, 1, 0, 5), -3);
        Tables.refused(x, "61st, a setting over another's", () -> x.set(0, 1, 1, 6), -3);
        Due.is("settled changes still count", x.settle(-1, true), 60);
        Tables.refused(x, "61st, when none is pending", () -> x.insert(0, 0, 0), -3);
        Due.is("undone", x.undo() >= 0 ? 1 : 0, 1);
        Due.is("run stops at the 61st", Tables.runText(x, 1, "1.1=7 1.0=7"), 1);
        Due.is("the setting that needs no number", x.cell(0, 1, 1), 7);
    }

    /** "A change has a kind (0 .. 4), an author, and a state: 0 pending, 1 accepted, 2 rejected, 3 dissolved." */
    private static void kindsAndStates() {
        TrackedTable x = Tables.plain(2, 2);
        x.insert(0, 0, 0);
        x.remove(1, 0, 1);
        x.insert(2, 1, 0);
        x.remove(3, 1, 1);
        x.set(0, 2, 2, 5);
        for (int kind = 0; kind < 5; kind++) {
            Due.is("kind " + kind, x.change(kind, 0), kind);
            Due.is("author of " + kind, x.change(kind, 1), kind % 4);
            Due.is("pending " + kind, x.change(kind, 2), 0);
        }
        x.accept(4);
        x.reject(3);
        x.remove(2, 1, 0);
        int[] states = {0, 0, 3, 2, 1};
        for (int number = 0; number < 5; number++) {
            Due.is("state of " + number, x.change(number, 2), states[number]);
            Due.is("kind stays " + number, x.change(number, 0), number);
            Due.is("author stays " + number, x.change(number, 1), number % 4);
        }
    }

    /** "A line can be both" new and doomed. */
    private static void aLineCanBeBoth() {
        TrackedTable x = Tables.plain(1, 1);
        for (int axis = 0; axis < 2; axis++) {
            int insertion = x.insert(0, axis, 1);
            int removal = x.remove(1, axis, 1);
            Due.is("new", x.line(axis, 1, 0), insertion);
            Due.is("doomed", x.line(axis, 1, 1), removal);
            Due.is("not in the clean view", x.line(axis, 1, 2), -5);
            Due.is("not in the old view", x.line(axis, 1, 3), -5);
            Due.is("new lines", x.count(6), axis + 1);
            Due.is("doomed lines", x.count(7), axis + 1);
        }
    }

    /** "Its value is that of the latest pending setting, or the base value if there is none." */
    private static void latestPendingSettingOrBase() {
        TrackedTable x = Tables.plain(1, 1);
        x.track(false);
        x.set(0, 0, 0, 3);
        x.track(true);
        Due.is("base value", x.cell(0, 0, 0), 3);
        x.set(0, 0, 0, 5);
        x.set(1, 0, 0, 6);
        Due.is("latest", x.cell(0, 0, 0), 6);
        x.reject(1);
        Due.is("the one below", x.cell(0, 0, 0), 5);
        x.reject(0);
        Due.is("base value again", x.cell(0, 0, 0), 3);
    }

    // ---- Views

    /** "The full view (0) shows all lines." */
    private static void fullViewShowsAll() {
        TrackedTable x = Tables.plain(1, 1);
        x.insert(0, 0, 0);
        x.insert(0, 0, 1);
        x.remove(1, 0, 1);
        x.remove(1, 0, 2);
        x.remove(1, 1, 0);
        Due.is("a new, a new and doomed, a doomed row", x.size(0, 0), 3);
        Due.is("a doomed column", x.size(0, 1), 1);
        Due.is("a cell of doomed lines", x.cell(0, 2, 0), 0);
    }

    /** "The clean view (1) shows all lines that are not doomed", perhaps none. */
    private static void cleanViewWithoutDoomed() {
        TrackedTable x = Tables.plain(1, 2);
        x.set(0, 0, 1, 5);
        x.remove(0, 1, 0);
        Due.is("the column left", x.cell(1, 0, 0), 5);
        Due.is("no second column", x.cell(1, 0, 1), -1);
        x.remove(0, 0, 0);
        Due.is("no rows", x.size(1, 0), 0);
        Due.is("columns", x.size(1, 1), 1);
        Due.is("no cell", x.cell(1, 0, 0), -1);
        Due.is("no sum", x.sum(1), 0);
        Due.is("the full sum stays", x.sum(0), 5);
    }

    /** "The old view (2) shows all lines that are not new, with the base values of cells." */
    private static void oldViewWithoutNew() {
        TrackedTable x = new TrackedTable();
        x.insert(0, 0, 0);
        x.insert(0, 1, 0);
        x.set(0, 0, 0, 5);
        Due.is("no rows", x.size(2, 0), 0);
        Due.is("no columns", x.size(2, 1), 0);
        Due.is("no cell", x.cell(2, 0, 0), -1);
        Due.is("no sum", x.sum(2), 0);
        x.accept(0);
        Due.is("a row", x.size(2, 0), 1);
        Due.is("no cell without a column", x.cell(2, 0, 0), -1);
        x.accept(1);
        Due.is("base value", x.cell(2, 0, 0), 0);
        x.remove(0, 0, 0);
        Due.is("doomed lines are in the old view", x.cell(2, 0, 0), 0);
        x.accept(2);
        Due.is("base value then", x.cell(2, 0, 0), 5);
    }

    // ---- Making changes

    /** "To insert a line makes a new line at a place; the lines from there on move on." */
    private static void linesFromThereMoveOn() {
        for (int place = 0; place <= 3; place++) {
            TrackedTable x = Tables.plain(3, 3);
            for (int i = 0; i < 3; i++) {
                x.set(0, i, i, 10 + i);
            }
            x.insert(0, 0, place);
            x.insert(0, 1, place);
            for (int i = 0; i < 3; i++) {
                int then = i < place ? i : i + 1;
                Due.is("inserted at " + place + ", cell " + i, x.cell(0, then, then), 10 + i);
                Due.is("inserted at " + place + ", row of " + i, x.change(i, 3), then);
                Due.is("inserted at " + place + ", column of " + i, x.change(i, 4), then);
            }
            Due.is("the new line at " + place, x.line(0, place, 0), 3);
            Due.is("the new column at " + place, x.line(1, place, 0), 4);
        }
    }

    /** A line that is gone leaves no place: new ones beside those that are left are lines of their own. */
    private static void linesBehindAGoneOneMoveUp(int axis) {
        for (int gone = 0; gone < 4; gone++) {
            TrackedTable x = axis == 0 ? Tables.plain(4, 1) : Tables.plain(1, 4);
            x.track(false);
            for (int place = 0; place < 4; place++) {
                x.set(0, axis == 0 ? place : 0, axis == 0 ? 0 : place, 10 + place);
            }
            x.remove(0, axis, gone);
            x.insert(0, axis, 3);
            x.insert(0, axis, 4);
            int[] values = {10, 11, 12, 13, 20, 21};
            for (int place = 3; place < 5; place++) {
                x.set(0, axis == 0 ? place : 0, axis == 0 ? 0 : place, 17 + place);
            }
            for (int place = 0; place < 5; place++) {
                int got = x.cell(0, axis == 0 ? place : 0, axis == 0 ? 0 : place);
                int due = values[place < gone ? place : place + 1];
                Due.is("axis " + axis + " without " + gone + ", place " + place, got, due);
            }
        }
    }

    /** "It goes at once: its insertion is dissolved, and so are all pending changes that rest on this." */
    private static void ownNewLineGoesAtOnce(int axis) {
        TrackedTable x = Tables.plain(2, 2);
        x.insert(1, axis, 1);
        int row = axis == 0 ? 1 : 0;
        int column = axis == 0 ? 0 : 1;
        x.set(1, row, column, 5);
        x.set(2, row, column, 6);
        x.set(2, 1, 1, 7);
        x.set(3, 0, 0, 8);
        x.reject(2);
        Due.is("goes at once", x.remove(1, axis, 1), 0);
        int[] states = {3, 3, 2, 3, 0};
        for (int number = 0; number < 5; number++) {
            Due.is("axis " + axis + " state of " + number, x.change(number, 2), states[number]);
        }
        Due.is("axis " + axis + " lines left", x.size(0, axis), 2);
        Due.is("axis " + axis + " no removal is made", x.count(0), 5);
    }

    /** "If it is new, and by the same author": neither alone is enough. */
    private static void onlyIfNewAndByTheSameAuthor() {
        for (int axis = 0; axis < 2; axis++) {
            TrackedTable x = new TrackedTable();
            x.insert(0, axis, 0);
            x.insert(0, axis, 1);
            x.accept(1);
            Due.is("new, by another", x.remove(1, axis, 0), 2);
            Due.is("stays", x.size(0, axis), 2);
            Due.is("by the same author, not new", x.remove(0, axis, 1), 3);
            Due.is("stays, too", x.size(0, axis), 2);
            Due.is("both doomed", x.size(1, axis), 0);
        }
    }

    /** "If the latest pending setting of this cell is by the same author, that setting gets the new value." */
    private static void sameAuthorsLatestSetting() {
        TrackedTable x = Tables.plain(1, 2);
        Due.is("first", x.set(0, 0, 0, 5), 0);
        Due.is("same author", x.set(0, 0, 0, 6), 0);
        Due.is("another cell", x.set(0, 0, 1, 6), 1);
        Due.is("another author", x.set(1, 0, 0, 7), 2);
        Due.is("the same author's is not the latest", x.set(0, 0, 0, 8), 3);
        x.accept(3);
        Due.is("it is not pending any more", x.set(0, 0, 0, 9), 4);
        x.reject(4);
        Due.is("rejected, it is not either", x.set(0, 0, 0, 9), 5);
        Due.is("the value of the rejected one stays", x.change(4, 5), 9);
        Due.is("the value of the accepted one stays", x.change(3, 5), 8);
    }

    /** "If this is the value that the cell has below it, the setting is dissolved with this value." */
    private static void valueBelowDissolves() {
        TrackedTable x = Tables.plain(1, 1);
        x.track(false);
        x.set(0, 0, 0, 3);
        x.track(true);
        x.set(0, 0, 0, 5);
        Due.is("not the base value's neighbours", x.set(0, 0, 0, 4), 0);
        Due.is("pending", x.change(0, 2), 0);
        x.set(1, 0, 0, 6);
        Due.is("the base value, but not below it", x.set(1, 0, 0, 3), 1);
        Due.is("pending still", x.change(1, 2), 0);
        Due.is("the setting's value below it", x.set(1, 0, 0, 4), 1);
        Due.is("dissolved", x.change(1, 2), 3);
        Due.is("with this value", x.change(1, 5), 4);
        Due.is("the one below stays", x.change(0, 2), 0);
        Due.is("the base value", x.set(0, 0, 0, 3), 0);
        Due.is("dissolved, too", x.change(0, 2), 3);
        Due.is("with the base value", x.change(0, 5), 3);
        Due.is("nothing pending", x.count(1), 0);
        Due.is("a dissolved one is not set again", x.set(1, 0, 0, 9), 2);
        Due.is("another author gets a setting of the value below", x.set(2, 0, 0, 3), 3);
        Due.is("not dissolved", x.change(3, 2), 0);
        TrackedTable y = Tables.plain(2, 2);
        y.track(false);
        y.set(0, 0, 1, 3);
        y.track(true);
        y.set(0, 0, 1, 5);
        y.set(0, 1, 0, 6);
        Due.is("below another cell", y.set(0, 0, 1, 0), 0);
        Due.is("not dissolved by another cell's base value", y.change(0, 2), 0);
        Due.is("below it in its own cell", y.set(0, 0, 1, 3), 0);
        Due.is("dissolved in the row", y.change(0, 2), 3);
        Due.is("the other cell's value", y.set(1, 0, 1, 6), 2);
        Due.is("not dissolved by the other cell's", y.change(2, 2), 0);
    }

    /** "No cell of a doomed line can be set (whether changes are tracked or not)." */
    private static void noCellOfADoomedLine() {
        for (int axis = 0; axis < 2; axis++) {
            TrackedTable x = Tables.plain(2, 2);
            x.set(0, 0, 0, 5);
            x.remove(1, axis, 0);
            for (int tracked = 1; tracked >= 0; tracked--) {
                Tables.refused(x, "own setting of a doomed line", () -> x.set(0, 0, 0, 6), -4);
                int row = axis == 0 ? 0 : 1;
                Tables.refused(x, "another cell of it", () -> x.set(2, row, 1 - row, 6), -4);
                x.track(false);
            }
            Due.is("a cell beside it", x.set(0, 1, 1, 6), 1000);
            TrackedTable y = Tables.plain(2, 2);
            y.remove(0, axis, 1);
            Tables.refused(y, "doomed by change 0", () -> y.set(0, 1, 1, 6), -4);
        }
    }

    /** "A doomed line cannot be removed again (also if it is new)." */
    private static void notDoomedAgain(int axis) {
        TrackedTable x = Tables.plain(1, 1);
        x.remove(0, axis, 0);
        x.insert(2, axis, 1);
        x.remove(3, axis, 1);
        for (int author = 0; author < 4; author++) {
            int by = author;
            Tables.refused(x, "doomed, by " + by, () -> x.remove(by, axis, 0), -4);
            Tables.refused(x, "new and doomed, by " + by, () -> x.remove(by, axis, 1), -4);
        }
        x.reject(2);
        Due.is("doomed no more, its author's goes", x.remove(2, axis, 1), 1);
    }

    /** "A line is inserted that is not new." */
    private static void untrackedInsertion() {
        for (int axis = 0; axis < 2; axis++) {
            TrackedTable x = new TrackedTable();
            x.track(false);
            Due.is("untracked", x.insert(3, axis, 0), 1000);
            Due.is("no insertion", x.line(axis, 0, 0), -5);
            Due.is("in the old view", x.line(axis, 0, 3), 0);
            x.track(true);
            Due.is("made doomed by the same author", x.remove(3, axis, 0), 0);
            Due.is("stays", x.size(0, axis), 1);
        }
    }

    /**
     * "A line is removed, also a doomed one, and all pending changes at it are dissolved (its
     * insertion, its removal, and settings of its cells)."
     */
    private static void untrackedRemoval(int axis) {
        TrackedTable x = Tables.plain(2, 2);
        x.insert(0, axis, 1);
        x.set(1, 1, 1, 5);
        x.set(2, 1, 1, 6);
        x.set(3, 0, 0, 7);
        x.set(3, axis == 0 ? 1 : 0, axis == 0 ? 0 : 1, 8);
        x.accept(4);
        x.undo();
        x.reject(4);
        x.remove(1, axis, 1);
        x.remove(1, axis, 2);
        x.track(false);
        Due.is("untracked", x.remove(2, axis, 1), 1000);
        int[] states = {3, 3, 3, 0, 2, 3, 0};
        for (int number = 0; number < 7; number++) {
            Due.is("axis " + axis + " state of " + number, x.change(number, 2), states[number]);
        }
        Due.is("axis " + axis + " the doomed line behind moves", x.line(axis, 1, 1), 6);
        Due.is("axis " + axis + " goes, too", x.remove(2, axis, 1), 1000);
        Due.is("axis " + axis + " its removal is dissolved", x.change(6, 2), 3);
        Due.is("axis " + axis + " a line left", x.size(0, axis), 1);
        Due.is("axis " + axis + " a plain line", x.remove(2, axis, 0), 1000);
        Due.is("axis " + axis + " no line left", x.remove(2, axis, 0), -1);
        Due.is("axis " + axis + " nothing pending", x.count(1), 0);
    }

    /** "A cell gets the value as its base value, and its pending settings are dissolved." */
    private static void untrackedSetting() {
        TrackedTable x = Tables.plain(2, 2);
        x.set(0, 0, 0, 5);
        x.set(1, 0, 0, 6);
        x.set(0, 0, 1, 7);
        x.set(0, 1, 0, 8);
        x.track(false);
        Due.is("by the latest one's author", x.set(1, 0, 0, 9), 1000);
        Due.is("base value", x.cell(2, 0, 0), 9);
        Due.is("value", x.cell(0, 0, 0), 9);
        Due.is("lower dissolved", x.change(0, 2), 3);
        Due.is("upper dissolved", x.change(1, 2), 3);
        Due.is("their values stay", x.change(0, 5) + x.change(1, 5), 11);
        Due.is("same row stays", x.change(2, 2), 0);
        Due.is("same column stays", x.change(3, 2), 0);
        Due.is("the lower setting's value", x.set(1, 0, 1, 0), 1000);
        Due.is("dissolved by the base value, too", x.change(2, 2), 3);
    }

    // ---- Resting

    /** "A setting on the insertion of its row and that of its column, and on the pending setting right below it." */
    private static void settingRestsDirectly() {
        TrackedTable x = Tables.plain(1, 1);
        x.insert(0, 0, 1);
        x.insert(0, 1, 1);
        x.set(1, 1, 1, 5);
        x.set(2, 1, 1, 6);
        x.set(1, 0, 1, 7);
        x.set(1, 1, 0, 8);
        x.set(1, 0, 0, 9);
        int[][] rests = {{0, 0}, {0, 0}, {1, 1}, {1, 1}, {0, 1}, {1, 0}, {0, 0}};
        for (int number = 2; number < 7; number++) {
            Due.is(number + " on its row", x.restsOn(number, 0), rests[number][0]);
            Due.is(number + " on its column", x.restsOn(number, 1), rests[number][1]);
            Due.is(number + " on the lowest", number == 2 ? 0 : x.restsOn(number, 2), number == 3 ? 1 : 0);
        }
        Due.is("not on the one above", x.restsOn(2, 3), 0);
        Due.is("not the row on the setting", x.restsOn(0, 2), 0);
        Due.is("not the row on the column", x.restsOn(0, 1), 0);
    }

    /** "It rests on those, on what they rest on, and so on": each is counted once. */
    private static void restsOnAndSoOn() {
        TrackedTable x = Tables.plain(0, 0);
        x.insert(0, 0, 0);
        x.insert(0, 1, 0);
        for (int n = 2; n < 60; n++) {
            x.set(n % 4, 0, 0, n);
        }
        Due.is("the highest on all", x.change(59, 7), 59);
        Due.is("on the row", x.restsOn(59, 0), 1);
        Due.is("on the lowest setting", x.restsOn(59, 2), 1);
        Due.is("all on the row", x.change(0, 8), 58);
        Due.is("those above it", x.change(30, 8), 29);
        Due.is("those below it, and its lines", x.change(30, 7), 30);
    }

    /** "A removal on the insertion of its line": not of another line, and settings not on the removal. */
    private static void removalRestsOnItsInsertion() {
        TrackedTable x = Tables.plain(1, 1);
        x.insert(0, 0, 0);
        x.insert(0, 1, 0);
        x.insert(0, 0, 0);
        x.set(1, 1, 0, 5);
        x.remove(2, 0, 1);
        x.remove(2, 1, 0);
        x.remove(2, 0, 2);
        int[] row = {1, 0, 0, 0};
        int[] column = {0, 1, 0, 0};
        int[] plain = {0, 0, 0, 0};
        int[][] rests = {row, column, plain};
        for (int removal = 4; removal < 7; removal++) {
            for (int other = 0; other < 4; other++) {
                Due.is(removal + " on " + other, x.restsOn(removal, other), rests[removal - 4][other]);
            }
            Due.is("the setting on " + removal, x.restsOn(3, removal), 0);
        }
    }

    /** "A pending change rests on these pending changes": neither may be settled. */
    private static void onlyPendingOnesRest() {
        TrackedTable x = Tables.plain(0, 1);
        x.insert(0, 0, 0);
        x.set(1, 0, 0, 5);
        x.set(2, 0, 0, 6);
        x.accept(1);
        Due.is("on an accepted one", x.restsOn(2, 1), 0);
        Due.is("an accepted one on another", x.restsOn(1, 0), 0);
        Due.is("rests on nothing", x.change(2, 7), 0);
        x.undo();
        x.reject(2);
        Due.is("a rejected one", x.restsOn(2, 1), 0);
        Due.is("nothing rests on it", x.change(1, 8), 0);
        Due.is("a rejected one rests on nothing", x.change(2, 7), 0);
        Due.is("only the other one rests on the row", x.change(0, 8), 1);
    }

    // ---- Accepting, rejecting

    /** "To accept a pending change accepts those on which it rests, too (they before it)." */
    private static void acceptingWithSupports() {
        TrackedTable x = Tables.plain(0, 0);
        x.insert(0, 0, 0);
        x.insert(0, 1, 0);
        x.set(1, 0, 0, 5);
        x.set(2, 0, 0, 6);
        x.set(1, 0, 0, 7);
        Due.is("with two lines and a setting", x.accept(3), 4);
        Due.is("its own value is the base value", x.cell(2, 0, 0), 6);
        Due.is("what rests on it stays pending", x.change(4, 2), 0);
        Due.is("rows that are not new", x.size(2, 0), 1);
        Due.is("an insertion alone does not accept what rests on it", x.accept(4), 1);
    }

    /** "A removal that is accepted removes the line, and the pending settings of its cells are dissolved." */
    private static void acceptedRemoval(int axis) {
        TrackedTable x = Tables.plain(1, 1);
        x.insert(0, axis, 1);
        int row = axis == 0 ? 1 : 0;
        x.set(1, row, 1 - row, 5);
        x.set(2, row, 1 - row, 6);
        x.set(2, 0, 0, 7);
        x.remove(3, axis, 1);
        Due.is("with its insertion", x.accept(4), 2);
        int[] states = {1, 3, 3, 0, 1};
        for (int number = 0; number < 5; number++) {
            Due.is("axis " + axis + " state of " + number, x.change(number, 2), states[number]);
        }
        Due.is("axis " + axis + " the line is gone", x.size(0, axis), 1);
        Due.is("axis " + axis + " the other line stays", x.size(0, 1 - axis), 1);
    }

    /** "To reject a pending change rejects all pending changes that rest on it, too." */
    private static void rejectingWithDependents() {
        for (int axis = 0; axis < 2; axis++) {
            TrackedTable x = Tables.plain(1, 1);
            x.insert(0, axis, 1);
            int row = axis == 0 ? 1 : 0;
            x.set(1, row, 1 - row, 5);
            x.set(2, row, 1 - row, 6);
            x.set(2, 0, 0, 7);
            x.remove(3, axis, 1);
            Due.is("with settings and removal", x.reject(0), 4);
            int[] states = {2, 2, 2, 0, 2};
            for (int number = 0; number < 5; number++) {
                Due.is("axis " + axis + " state of " + number, x.change(number, 2), states[number]);
            }
            Due.is("axis " + axis + " the line is gone", x.size(0, axis), 1);
            x.remove(3, axis, 0);
            Due.is("a removal alone", x.reject(5), 1);
            Due.is("axis " + axis + " not doomed any more", x.line(axis, 0, 1), -5);
            Due.is("axis " + axis + " in the clean view", x.size(1, axis), 1);
        }
    }

    /** "A setting that is rejected goes, the ones below it stay." */
    private static void rejectedSettingLeavesThoseBelow() {
        TrackedTable x = Tables.made(4);
        Due.is("with the one above", x.reject(2), 2);
        Due.is("below", x.change(1, 2), 0);
        Due.is("lowest", x.change(0, 2), 0);
        Due.is("value", x.cell(0, 0, 0), 2);
        Due.is("the lowest, with all", x.reject(0), 2);
        Due.is("the base value", x.cell(0, 0, 0), 0);
        Due.is("all rejected", x.count(3), 4);
    }
}
