/** The boundary cases that promises 13 to 22 name: each test quotes the sentence that it is for. */
public final class TellingBoundaryTest {
    private static final int LOWEST = Integer.MIN_VALUE;
    private static final int HIGHEST = Integer.MAX_VALUE;

    public static void main(String[] args) {
        sizeViewAndAxis();
        sizeOfEachView();
        cellView();
        cellPlaces();
        cellOfTheFullView();
        linePlaces();
        lineWhat();
        lineInsertionAndRemoval();
        linePlaceInCleanView(0);
        linePlaceInCleanView(1);
        linePlaceInOldView(0);
        linePlaceInOldView(1);
        lineSettings();
        settingPlaces();
        settingLevel();
        settingOrderOfErrors();
        changeUnknown();
        changeWhat();
        changePlaces();
        changePlacesAsTheyAreNow();
        changeOfGoneLines(0);
        changeOfGoneLines(1);
        changeValue();
        changeValueBelow();
        changeRestsOn();
        restsOnUnknown();
        restsOnSame();
        restsOnSettled();
        pendingPlace();
        pendingRowsThenColumnsThenSettings();
        pendingInsertionsAndRemovalsAmongOneAnother();
        pendingSettings();
        pendingAll60();
        authorUnknown();
        authorState();
        authorCounts();
        sumView();
        sumOfNothingAndOfTheMost();
        countWhat();
        countAtItsEdges();
        errorBeforeNone();
        Due.finish();
    }

    // ---- promise 13

    /** "View: 0 to 2; axis: 0 for rows, 1 for columns", otherwise "UNKNOWN". */
    private static void sizeViewAndAxis() {
        TrackedTable x = Tables.plain(3, 2);
        for (int view = 0; view < 3; view++) {
            Due.is("rows of view " + view, x.size(view, 0), 3);
            Due.is("columns of view " + view, x.size(view, 1), 2);
            for (int wrong : new int[] {-1, 2, LOWEST, HIGHEST}) {
                Due.is("axis " + wrong, x.size(view, wrong), -1);
            }
        }
        for (int wrong : new int[] {-1, 3, LOWEST, HIGHEST}) {
            Due.is("view " + wrong, x.size(wrong, 0) + x.size(wrong, 1), -2);
        }
    }

    /** "Returns the number of lines in the view": up to 12 and 8, down to none. */
    private static void sizeOfEachView() {
        TrackedTable x = Tables.plain(12, 8);
        for (int row = 0; row < 12; row++) {
            Due.is("clean rows", x.size(1, 0), 12 - row);
            x.remove(0, 0, row);
        }
        Due.is("no clean rows", x.size(1, 0), 0);
        Due.is("all rows", x.size(0, 0), 12);
        Due.is("old rows", x.size(2, 0), 12);
        TrackedTable y = new TrackedTable();
        for (int column = 0; column < 8; column++) {
            y.insert(0, 1, 0);
            Due.is("columns", y.size(0, 1), column + 1);
            Due.is("clean columns", y.size(1, 1), column + 1);
            Due.is("no old columns", y.size(2, 1), 0);
        }
    }

    // ---- promise 14

    /** "View: 0 to 2", otherwise "UNKNOWN". */
    private static void cellView() {
        TrackedTable x = Tables.plain(1, 1);
        for (int wrong : new int[] {-1, 3, LOWEST, HIGHEST}) {
            Due.is("view " + wrong, x.cell(wrong, 0, 0), -1);
        }
        for (int view = 0; view < 3; view++) {
            Due.is("view " + view, x.cell(view, 0, 0), 0);
        }
    }

    /** "The place of a row in the view; the place of a column in the view": not in the full view. */
    private static void cellPlaces() {
        TrackedTable x = Tables.plain(2, 2);
        x.insert(0, 0, 0);
        x.insert(0, 0, 0);
        x.insert(0, 1, 0);
        x.remove(0, 0, 3);
        int[] rows = {4, 3, 2};
        int[] columns = {3, 3, 2};
        for (int view = 0; view < 3; view++) {
            Due.is("the last cell of view " + view, x.cell(view, rows[view] - 1, columns[view] - 1), 0);
            for (int wrong : new int[] {-1, rows[view], LOWEST, HIGHEST}) {
                Due.is("view " + view + " row " + wrong, x.cell(view, wrong, 0), -1);
            }
            for (int wrong : new int[] {-1, columns[view], LOWEST, HIGHEST}) {
                Due.is("view " + view + " column " + wrong, x.cell(view, 0, wrong), -1);
            }
        }
    }

    /** "The value in the view (in the full view as in the clean one)". */
    private static void cellOfTheFullView() {
        TrackedTable x = Tables.made(2);
        Due.is("full", x.cell(0, 0, 0), 2);
        Due.is("clean", x.cell(1, 0, 0), 2);
        Due.is("old", x.cell(2, 0, 0), 0);
        x.accept(0);
        Due.is("full still", x.cell(0, 0, 0), 2);
        Due.is("old then", x.cell(2, 0, 0), 1);
        x.remove(2, 0, 0);
        Due.is("the full view has doomed lines' values", x.cell(0, 0, 0), 2);
    }

    // ---- promise 15

    /** "Place: its place in the full view", otherwise "UNKNOWN", and before "BAD_VALUE". */
    private static void linePlaces() {
        TrackedTable x = Tables.plain(2, 1);
        for (int what = -1; what <= 5; what++) {
            for (int wrong : new int[] {-1, 2, 12, LOWEST, HIGHEST}) {
                Due.is("axis " + wrong, x.line(wrong, 0, what), -1);
                Due.is("row " + wrong, x.line(0, wrong, what), -1);
                Due.is("column " + wrong, x.line(1, wrong, what), -1);
            }
            Due.is("column 1", x.line(1, 1, what), -1);
        }
        Due.is("row 1", x.line(0, 1, 2), 1);
        Due.is("column 0", x.line(1, 0, 2), 0);
    }

    /** "What: 0 .. 4", otherwise "BAD_VALUE". */
    private static void lineWhat() {
        TrackedTable x = Tables.plain(1, 1);
        int[] due = {-5, -5, 0, 0, 0};
        for (int axis = 0; axis < 2; axis++) {
            for (int what = 0; what < 5; what++) {
                Due.is("what " + what, x.line(axis, 0, what), due[what]);
            }
            for (int wrong : new int[] {-1, 5, LOWEST, HIGHEST}) {
                Due.is("what " + wrong, x.line(axis, 0, wrong), -2);
            }
        }
    }

    /** "Its insertion (NONE if it is not new)", "its removal (NONE if it is not doomed)". */
    private static void lineInsertionAndRemoval() {
        for (int axis = 0; axis < 2; axis++) {
            TrackedTable x = new TrackedTable();
            x.insert(0, axis, 0);
            x.insert(0, 1 - axis, 0);
            x.remove(1, axis, 0);
            Due.is("insertion", x.line(axis, 0, 0), 0);
            Due.is("removal", x.line(axis, 0, 1), 2);
            Due.is("the other axis' insertion", x.line(1 - axis, 0, 0), 1);
            Due.is("not doomed", x.line(1 - axis, 0, 1), -5);
            x.accept(0);
            Due.is("not new any more", x.line(axis, 0, 0), -5);
            Due.is("doomed still", x.line(axis, 0, 1), 2);
            x.reject(2);
            Due.is("not doomed any more", x.line(axis, 0, 1), -5);
        }
    }

    /** "Its place in the clean view (NONE if it is not in it)". */
    private static void linePlaceInCleanView(int axis) {
        TrackedTable x = axis == 0 ? Tables.plain(4, 1) : Tables.plain(1, 4);
        x.remove(0, axis, 0);
        x.remove(0, axis, 2);
        x.insert(0, axis, 4);
        int[] due = {-5, 0, -5, 1, 2};
        for (int place = 0; place < due.length; place++) {
            Due.is("axis " + axis + " clean place of " + place, x.line(axis, place, 2), due[place]);
        }
    }

    /** "In the old view (NONE if it is not in it)". */
    private static void linePlaceInOldView(int axis) {
        TrackedTable x = axis == 0 ? Tables.plain(2, 1) : Tables.plain(1, 2);
        x.insert(0, axis, 0);
        x.insert(0, axis, 2);
        x.insert(0, axis, 4);
        x.remove(0, axis, 1);
        int[] due = {-5, 0, -5, 1, -5};
        for (int place = 0; place < due.length; place++) {
            Due.is("axis " + axis + " old place of " + place, x.line(axis, place, 3), due[place]);
        }
    }

    /** "The number of pending settings of its cells": all levels of all cells, up to 60. */
    private static void lineSettings() {
        TrackedTable x = Tables.made(60);
        Due.is("row", x.line(0, 0, 4), 60);
        Due.is("column", x.line(1, 0, 4), 60);
        Due.is("another row", x.line(0, 1, 4), 0);
        x.reject(20);
        Due.is("pending ones only", x.line(0, 0, 4), 20);
        x.accept(9);
        Due.is("not the accepted ones", x.line(1, 0, 4), 10);
        TrackedTable y = Tables.plain(2, 2);
        y.set(0, 0, 0, 5);
        y.set(1, 0, 0, 6);
        y.set(0, 0, 1, 7);
        y.set(0, 1, 0, 8);
        Due.is("of two cells of a row", y.line(0, 0, 4), 3);
        Due.is("of two cells of a column", y.line(1, 0, 4), 3);
        Due.is("of one cell", y.line(1, 1, 4), 1);
        TrackedTable z = Tables.plain(2, 2);
        z.set(0, 0, 1, 5);
        z.set(1, 0, 1, 6);
        Due.is("of its own row", z.line(0, 0, 4), 2);
        Due.is("not of the other row", z.line(0, 1, 4), 0);
        Due.is("not of the other column", z.line(1, 0, 4), 0);
        Due.is("of its own column", z.line(1, 1, 4), 2);
    }

    // ---- promise 16

    /** "The place of a row; the place of a column", otherwise "UNKNOWN". */
    private static void settingPlaces() {
        TrackedTable x = Tables.plain(2, 3);
        x.set(0, 1, 2, 5);
        Due.is("the last cell", x.setting(1, 2, 0), 0);
        Due.is("another cell", x.setting(1, 1, 0), -5);
        Due.is("row 2", x.setting(2, 2, 0), -1);
        for (int wrong : new int[] {-1, 3, LOWEST, HIGHEST}) {
            Due.is("row " + wrong, x.setting(wrong, 0, 0), -1);
            Due.is("column " + wrong, x.setting(0, wrong, 0), -1);
        }
    }

    /** "0 for the lowest pending setting, and so on"; "NONE if there are not so many". */
    private static void settingLevel() {
        TrackedTable x = Tables.made(60);
        for (int level = 0; level < 60; level++) {
            Due.is("level " + level, x.setting(0, 0, level), level);
        }
        Due.is("level 60", x.setting(0, 0, 60), -5);
        Due.is("highest level", x.setting(0, 0, HIGHEST), -5);
        Due.is("level -1", x.setting(0, 0, -1), -2);
        Due.is("lowest level", x.setting(0, 0, LOWEST), -2);
        x.accept(9);
        Due.is("the lowest that is pending", x.setting(0, 0, 0), 10);
        Due.is("the last level", x.setting(0, 0, 49), 59);
        Due.is("one level more", x.setting(0, 0, 50), -5);
    }

    /** UNKNOWN, BAD_VALUE, NONE. */
    private static void settingOrderOfErrors() {
        TrackedTable x = Tables.plain(1, 1);
        Due.is("row before level", x.setting(1, 0, -1), -1);
        Due.is("column before level", x.setting(0, 1, -1), -1);
        Due.is("level before NONE", x.setting(0, 0, -1), -2);
        Due.is("NONE", x.setting(0, 0, 0), -5);
    }

    // ---- promise 17

    /** "UNKNOWN": no change has this number, and before "BAD_VALUE". */
    private static void changeUnknown() {
        TrackedTable x = Tables.made(3);
        for (int what = -1; what <= 9; what++) {
            for (int wrong : new int[] {-1, 3, 60, LOWEST, HIGHEST}) {
                Due.is("change " + wrong, x.change(wrong, what), -1);
            }
        }
        x.undo();
        Due.is("undone", x.change(2, 0), -1);
        TrackedTable y = Tables.made(60);
        Due.is("the last one", y.change(59, 5), 60);
        Due.is("no number 60", y.change(60, 5), -1);
    }

    /** "What: 0 .. 8", otherwise "BAD_VALUE". */
    private static void changeWhat() {
        TrackedTable x = Tables.made(1);
        int[] due = {4, 0, 0, 0, 0, 1, 0, 0, 0};
        for (int what = 0; what < due.length; what++) {
            Due.is("what " + what, x.change(0, what), due[what]);
        }
        for (int wrong : new int[] {-1, 9, LOWEST, HIGHEST}) {
            Due.is("what " + wrong, x.change(0, wrong), -2);
        }
    }

    /** "Each is NONE if it has no such line": a change of a row has no column, one of a column no row. */
    private static void changePlaces() {
        TrackedTable x = Tables.plain(1, 1);
        x.insert(0, 0, 1);
        x.remove(1, 0, 1);
        x.insert(0, 1, 1);
        x.remove(1, 1, 1);
        x.set(0, 0, 0, 5);
        int[] rows = {1, 1, -5, -5, 0};
        int[] columns = {-5, -5, 1, 1, 0};
        for (int number = 0; number < 5; number++) {
            Due.is("row of " + number, x.change(number, 3), rows[number]);
            Due.is("column of " + number, x.change(number, 4), columns[number]);
        }
    }

    /** "As they are now, also if it is not pending". */
    private static void changePlacesAsTheyAreNow() {
        TrackedTable x = Tables.plain(2, 2);
        x.set(0, 1, 1, 5);
        x.set(0, 1, 0, 5);
        x.set(0, 0, 1, 5);
        x.accept(0);
        x.reject(1);
        x.set(0, 0, 1, 0);
        x.remove(0, 0, 1);
        x.reject(3);
        x.insert(1, 0, 0);
        x.insert(1, 1, 1);
        int[] states = {1, 2, 3, 2};
        int[] rows = {2, 2, 1, 2};
        int[] columns = {2, 0, 2, -5};
        for (int number = 0; number < 4; number++) {
            Due.is("state of " + number, x.change(number, 2), states[number]);
            Due.is("row of " + number, x.change(number, 3), rows[number]);
            Due.is("column of " + number, x.change(number, 4), columns[number]);
        }
        x.accept(4);
        x.insert(1, 0, 0);
        Due.is("row of an accepted insertion", x.change(4, 3), 1);
    }

    /** "Or this line is gone": for each way that a line goes, also when another line comes to its place. */
    private static void changeOfGoneLines(int axis) {
        for (int way = 0; way < 4; way++) {
            TrackedTable x = Tables.plain(1, 1);
            x.insert(0, axis, 1);
            int row = axis == 0 ? 1 : 0;
            x.set(0, row, 1 - row, 5);
            int line = 3 + axis;
            int cross = 4 - axis;
            if (way == 0) {
                x.remove(0, axis, 1);
            } else if (way == 1) {
                x.reject(0);
            } else if (way == 2) {
                x.remove(1, axis, 1);
                x.accept(2);
                Due.is("its removal's line is gone", x.change(2, line), -5);
            } else {
                x.track(false);
                x.remove(1, axis, 1);
                x.track(true);
            }
            for (int again = 0; again < 2; again++) {
                Due.is("axis " + axis + " way " + way + " line of the insertion", x.change(0, line), -5);
                Due.is("axis " + axis + " way " + way + " line of the setting", x.change(1, line), -5);
                Due.is("axis " + axis + " way " + way + " its other line", x.change(1, cross), 0);
                Due.is("axis " + axis + " way " + way + " no other line", x.change(0, cross), -5);
                x.insert(2, axis, 1);
            }
            for (int left = way == 3 ? 4 : 3; left > 0; left--) {
                x.undo();
            }
            Due.is("axis " + axis + " way " + way + " undone: the line is back", x.change(1, line), 1);
            Due.is("axis " + axis + " way " + way + " undone: for the insertion, too", x.change(0, line), 1);
        }
    }

    /** "The value of a setting (NONE for other kinds)", in each state. */
    private static void changeValue() {
        TrackedTable x = Tables.plain(1, 1);
        x.insert(0, 0, 1);
        x.remove(0, 0, 0);
        x.insert(0, 1, 1);
        x.remove(0, 1, 0);
        x.set(0, 1, 1, 9999);
        for (int number = 0; number < 4; number++) {
            Due.is("kind " + number, x.change(number, 5), -5);
        }
        Due.is("a setting", x.change(4, 5), 9999);
        x.accept(4);
        Due.is("an accepted one", x.change(4, 5), 9999);
        x.set(1, 1, 1, 0);
        Due.is("of the value 0", x.change(5, 5), 0);
        x.reject(5);
        Due.is("a rejected one", x.change(5, 5), 0);
        x.set(2, 1, 1, 7);
        x.set(2, 1, 1, 9999);
        Due.is("a dissolved one", x.change(6, 5), 9999);
    }

    /** "The value below a pending setting (NONE for others)". */
    private static void changeValueBelow() {
        TrackedTable x = Tables.plain(1, 1);
        x.track(false);
        x.set(0, 0, 0, 3);
        x.track(true);
        x.insert(0, 0, 1);
        x.set(0, 0, 0, 5);
        x.set(1, 0, 0, 6);
        x.remove(2, 1, 0);
        Due.is("an insertion", x.change(0, 6), -5);
        Due.is("the base value", x.change(1, 6), 3);
        Due.is("the setting below", x.change(2, 6), 5);
        Due.is("a removal", x.change(3, 6), -5);
        x.accept(1);
        Due.is("an accepted one", x.change(1, 6), -5);
        Due.is("the base value then", x.change(2, 6), 5);
        x.reject(2);
        Due.is("a rejected one", x.change(2, 6), -5);
        TrackedTable y = Tables.made(1);
        Due.is("the base value 0", y.change(0, 6), 0);
        y.set(0, 0, 0, 0);
        Due.is("a dissolved one", y.change(0, 6), -5);
        TrackedTable z = Tables.plain(2, 2);
        z.track(false);
        z.set(0, 0, 1, 8);
        z.set(0, 1, 0, 9);
        z.track(true);
        z.set(0, 0, 1, 5);
        z.set(0, 1, 0, 5);
        Due.is("of its own cell", z.change(0, 6), 8);
        Due.is("of its own cell, too", z.change(1, 6), 9);
    }

    /** "The number of pending changes on which it rests (0 if it is not pending)", and "that rest on it". */
    private static void changeRestsOn() {
        TrackedTable x = new TrackedTable();
        x.insert(0, 0, 0);
        x.insert(0, 1, 0);
        x.set(1, 0, 0, 5);
        x.set(2, 0, 0, 6);
        x.remove(1, 1, 0);
        int[] on = {0, 0, 2, 3, 1};
        int[] by = {2, 3, 1, 0, 0};
        for (int number = 0; number < 5; number++) {
            Due.is(number + " rests on", x.change(number, 7), on[number]);
            Due.is(number + " is rested on by", x.change(number, 8), by[number]);
        }
        x.accept(0);
        int[] onThen = {0, 0, 1, 2, 1};
        int[] byThen = {0, 3, 1, 0, 0};
        for (int number = 0; number < 5; number++) {
            Due.is(number + " rests then on", x.change(number, 7), onThen[number]);
            Due.is(number + " is then rested on by", x.change(number, 8), byThen[number]);
        }
        x.settle(-1, false);
        for (int number = 0; number < 5; number++) {
            Due.is(number + " settled", x.change(number, 7) + x.change(number, 8), 0);
        }
    }

    // ---- promise 18

    /** "UNKNOWN": either is no change. */
    private static void restsOnUnknown() {
        TrackedTable x = Tables.made(2);
        Due.is("upper on lower", x.restsOn(1, 0), 1);
        for (int wrong : new int[] {-1, 2, 60, LOWEST, HIGHEST}) {
            Due.is(wrong + " on 0", x.restsOn(wrong, 0), -1);
            Due.is("0 on " + wrong, x.restsOn(0, wrong), -1);
            Due.is("unknown before the same, " + wrong, x.restsOn(wrong, wrong), -1);
        }
        TrackedTable y = Tables.made(60);
        Due.is("59 on 0", y.restsOn(59, 0), 1);
        Due.is("59 on 58", y.restsOn(59, 58), 1);
        Due.is("58 on 59", y.restsOn(58, 59), 0);
        Due.is("60 on 0", y.restsOn(60, 0), -1);
    }

    /** "BAD_VALUE if both are the same": pending or not. */
    private static void restsOnSame() {
        TrackedTable x = Tables.made(3);
        x.accept(0);
        x.reject(2);
        for (int number = 0; number < 3; number++) {
            Due.is("the same " + number, x.restsOn(number, number), -2);
        }
    }

    /** "1 if both are pending and the first one rests on the other one, otherwise 0". */
    private static void restsOnSettled() {
        TrackedTable x = Tables.made(4);
        x.accept(0);
        x.reject(3);
        int[][] due = {{-2, 0, 0, 0}, {0, -2, 0, 0}, {0, 1, -2, 0}, {0, 0, 0, -2}};
        for (int one = 0; one < 4; one++) {
            for (int other = 0; other < 4; other++) {
                Due.is(one + " on " + other, x.restsOn(one, other), due[one][other]);
            }
        }
    }

    // ---- promise 19

    private static void reads(TrackedTable x, int... numbers) {
        for (int place = 0; place < numbers.length; place++) {
            Due.is("pending(" + place + ")", x.pending(place), numbers[place]);
        }
        Due.is("pending(" + numbers.length + ")", x.pending(numbers.length), -5);
    }

    /** "BAD_VALUE if place is negative; NONE if there are not so many". */
    private static void pendingPlace() {
        TrackedTable x = Tables.made(1);
        for (int states = 0; states < 2; states++) {
            Due.is("place -1", x.pending(-1), -2);
            Due.is("lowest place", x.pending(LOWEST), -2);
            Due.is("the only one, or none", x.pending(0), states == 0 ? 0 : -5);
            Due.is("place 1", x.pending(1), -5);
            Due.is("highest place", x.pending(HIGHEST), -5);
            x.accept(0);
        }
        TrackedTable y = new TrackedTable();
        Due.is("no lines", y.pending(0), -5);
        Due.is("no lines, -1", y.pending(-1), -2);
    }

    /** "First changes of rows, then those of columns, then settings". */
    private static void pendingRowsThenColumnsThenSettings() {
        TrackedTable x = Tables.plain(2, 2);
        x.set(0, 0, 0, 5);
        x.insert(0, 1, 0);
        x.remove(0, 1, 1);
        x.remove(0, 0, 1);
        x.insert(0, 0, 2);
        reads(x, 3, 4, 1, 2, 0);
        x.accept(1);
        reads(x, 3, 4, 2, 0);
        x.settle(-1, true);
        reads(x);
        TrackedTable y = new TrackedTable();
        y.insert(0, 1, 0);
        reads(y, 0);
        y.insert(0, 0, 0);
        reads(y, 1, 0);
        TrackedTable z = new TrackedTable();
        z.insert(0, 0, 0);
        z.insert(0, 0, 0);
        z.remove(1, 0, 1);
        reads(z, 1, 0, 2);
    }

    /** "Insertions and removals among one another", "by the places", "then by numbers". */
    private static void pendingInsertionsAndRemovalsAmongOneAnother() {
        for (int axis = 0; axis < 2; axis++) {
            TrackedTable x = axis == 0 ? Tables.plain(3, 1) : Tables.plain(1, 3);
            x.remove(0, axis, 2);
            x.insert(0, axis, 1);
            x.remove(0, axis, 0);
            x.insert(0, axis, 0);
            x.insert(0, axis, 5);
            x.remove(1, axis, 5);
            x.remove(1, axis, 0);
            reads(x, 3, 6, 2, 1, 0, 4, 5);
        }
    }

    /** "Then settings; then by the places of rows, then by those of columns, then by numbers". */
    private static void pendingSettings() {
        TrackedTable x = Tables.plain(2, 2);
        x.set(0, 1, 1, 5);
        x.set(0, 1, 0, 5);
        x.set(0, 0, 1, 5);
        x.set(0, 0, 0, 5);
        x.set(1, 1, 0, 6);
        x.set(1, 0, 1, 6);
        reads(x, 3, 2, 5, 1, 4, 0);
        x.reject(2);
        reads(x, 3, 1, 4, 0);
    }

    /** As many as there can be. */
    private static void pendingAll60() {
        TrackedTable x = Tables.made(60);
        for (int place = 0; place < 60; place++) {
            Due.is("place " + place, x.pending(place), place);
        }
        Due.is("place 60", x.pending(60), -5);
    }

    // ---- promise 20

    /** "Author: 0 to 3", otherwise "UNKNOWN", and before "BAD_VALUE"; -1 is no author here. */
    private static void authorUnknown() {
        TrackedTable x = Tables.made(2);
        for (int wrong : new int[] {-1, 4, LOWEST, HIGHEST}) {
            for (int state = -1; state <= 4; state++) {
                Due.is("author " + wrong + " state " + state, x.author(wrong, state), -1);
            }
        }
        Due.is("author 3", x.author(3, 0), 0);
    }

    /** "State: 0 to 3", otherwise "BAD_VALUE". */
    private static void authorState() {
        TrackedTable x = Tables.made(2);
        for (int author = 0; author < 4; author++) {
            Due.is("state 0", x.author(author, 0), author < 2 ? 1 : 0);
            Due.is("state 3", x.author(author, 3), 0);
            for (int wrong : new int[] {-1, 4, LOWEST, HIGHEST}) {
                Due.is("state " + wrong, x.author(author, wrong), -2);
            }
        }
    }

    /** "The number of changes of the author in this state": none, some, all 60. */
    private static void authorCounts() {
        TrackedTable x = Tables.made(60);
        x.accept(9);
        x.reject(41);
        x.set(0, 0, 0, 40);
        int[][] due = {{15, 5, 9, 1}, {15, 5, 10, 0}, {0, 0, 0, 0}, {0, 0, 0, 0}};
        for (int author = 0; author < 4; author++) {
            for (int state = 0; state < 4; state++) {
                Due.is("author " + author + " state " + state, x.author(author, state), due[author][state]);
            }
        }
        TrackedTable y = Tables.plain(8, 8);
        for (int n = 0; n < 60; n++) {
            y.set(3, n / 8, n % 8, 1);
        }
        Due.is("all 60 pending", y.author(3, 0), 60);
        y.settle(3, true);
        Due.is("all 60 accepted", y.author(3, 1), 60);
    }

    // ---- promise 21

    /** "View: 0 to 2", otherwise "UNKNOWN". */
    private static void sumView() {
        TrackedTable x = Tables.plain(2, 2);
        x.set(0, 0, 0, 5);
        x.set(0, 1, 1, 6);
        x.remove(0, 0, 0);
        int[] due = {11, 6, 0};
        for (int view = 0; view < 3; view++) {
            Due.is("view " + view, x.sum(view), due[view]);
        }
        for (int wrong : new int[] {-1, 3, LOWEST, HIGHEST}) {
            Due.is("view " + wrong, x.sum(wrong), -1);
        }
    }

    /** "The sum of the values of all cells in the view": of none, and of 96 times 9999. */
    private static void sumOfNothingAndOfTheMost() {
        TrackedTable x = new TrackedTable();
        x.insert(0, 0, 0);
        Due.is("a row without columns", x.sum(0), 0);
        TrackedTable y = new TrackedTable();
        y.insert(0, 1, 0);
        Due.is("a column without rows", y.sum(1), 0);
        TrackedTable z = Tables.plain(12, 8);
        z.track(false);
        for (int cell = 0; cell < 96; cell++) {
            z.set(0, cell / 8, cell % 8, 9999);
        }
        for (int view = 0; view < 3; view++) {
            Due.is("the most of view " + view, z.sum(view), 959904);
        }
        z.track(true);
        z.remove(0, 0, 11);
        z.remove(0, 1, 7);
        Due.is("without a row and a column", z.sum(1), 11 * 7 * 9999);
    }

    // ---- promise 22

    /** "What: 0 .. 10", otherwise "BAD_VALUE". */
    private static void countWhat() {
        TrackedTable x = new TrackedTable();
        for (int what = 0; what <= 10; what++) {
            Due.is("what " + what, x.count(what), what == 5 ? 1 : 0);
        }
        for (int wrong : new int[] {-1, 11, LOWEST, HIGHEST}) {
            Due.is("what " + wrong, x.count(wrong), -2);
        }
    }

    /** Each number at its most, and that it goes down again. */
    private static void countAtItsEdges() {
        TrackedTable x = Tables.made(60);
        int[] made = {60, 60, 0, 0, 0, 1, 0, 0, 60, 4, 0};
        counts(x, made);
        x.settle(-1, true);
        counts(x, 60, 0, 60, 0, 0, 1, 0, 0, 0, 4, 0);
        x.undo();
        x.settle(-1, false);
        counts(x, 60, 0, 0, 60, 0, 1, 0, 0, 0, 4, 0);
        x.undo();
        x.track(false);
        x.set(0, 0, 0, 99);
        counts(x, 60, 0, 0, 0, 60, 0, 0, 0, 0, 4, 0);
        TrackedTable y = new TrackedTable();
        for (int row = 0; row < 12; row++) {
            y.insert(0, 0, row);
            y.remove(1, 0, row);
        }
        for (int column = 0; column < 8; column++) {
            y.insert(0, 1, column);
            y.remove(1, 1, column);
        }
        Tables.write(y, "x");
        counts(y, 40, 40, 0, 0, 0, 1, 20, 20, 0, 4, 1);
        y.settle(1, false);
        counts(y, 40, 20, 0, 20, 0, 1, 20, 0, 0, 4, 1);
        y.settle(0, true);
        counts(y, 40, 0, 20, 20, 0, 1, 0, 0, 0, 4, 1);
    }

    private static void counts(TrackedTable x, int... due) {
        for (int what = 0; what < due.length; what++) {
            Due.is("count(" + what + ")", x.count(what), due[what]);
        }
    }

    // ---- errors

    /** "NONE is returned only if no error applies." */
    private static void errorBeforeNone() {
        TrackedTable x = Tables.plain(1, 1);
        Due.is("line that is not new", x.line(0, 0, 0), -5);
        Due.is("no line", x.line(0, 1, 0), -1);
        Due.is("no setting", x.setting(0, 0, 0), -5);
        Due.is("no cell", x.setting(1, 0, 0), -1);
        Due.is("no change", x.change(0, 6), -1);
        x.insert(0, 0, 0);
        Due.is("no value below", x.change(0, 6), -5);
        Due.is("no such fact", x.change(0, 9), -2);
        Due.is("no second pending one", x.pending(1), -5);
        Due.is("no negative one", x.pending(-1), -2);
    }
}
