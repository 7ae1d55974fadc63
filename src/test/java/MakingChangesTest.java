/** Promises 1 to 5: the constructor, track, insert, remove, set. */
public final class MakingChangesTest {
    public static void main(String[] args) {
        aNewObject();
        objectsAreApart();
        track();
        insertWhere();
        insertErrors();
        insertFull();
        insertUntracked();
        removeErrors();
        removeOfOwnNewLine();
        removeOfOthersNewLine();
        removeUntracked();
        setAndSetAgain();
        setErrors();
        setOfDoomed();
        setUntracked();
        sixtyChanges();
        newCellsHaveZero();
        Due.finish();
    }

    private static void aNewObject() {
        TrackedTable x = new TrackedTable();
        for (int view = 0; view < 3; view++) {
            Due.is("P1 rows", x.size(view, 0), 0);
            Due.is("P1 columns", x.size(view, 1), 0);
            Due.is("P1 sum", x.sum(view), 0);
        }
        for (int what = 0; what <= 10; what++) {
            Due.is("P1 count(" + what + ")", x.count(what), what == 5 ? 1 : 0);
        }
        Due.is("P1 undo", x.undo(), -5);
        Due.is("P1 pending", x.pending(0), -5);
        Due.is("P1 change", x.change(0, 0), -1);
    }

    private static void objectsAreApart() {
        TrackedTable x = new TrackedTable();
        TrackedTable y = new TrackedTable();
        x.insert(0, 0, 0);
        x.type('+');
        Due.is("P1 other rows", y.size(0, 0), 0);
        Due.is("P1 other text", y.count(10), 0);
        Due.is("P1 other history", y.count(9), 0);
    }

    private static void track() {
        TrackedTable x = new TrackedTable();
        Due.is("P2 so already", x.track(true), -4);
        Due.is("P2 no act", x.count(9), 0);
        x.insert(0, 0, 0);
        x.insert(0, 1, 0);
        Due.is("P2 off", x.track(false), 2);
        Due.is("P2 told", x.count(5), 0);
        Due.is("P2 off already", x.track(false), -4);
        Due.is("P2 an act", x.count(9), 3);
        Due.is("P2 undone", x.undo(), 2);
        Due.is("P2 tracked again", x.count(5), 1);
        x.track(false);
        Due.is("P2 on", x.track(true), 2);
        Due.is("P2 an act too", x.count(9), 4);
    }

    private static void insertWhere() {
        TrackedTable x = new TrackedTable();
        Due.is("P3 first", x.insert(3, 0, 0), 0);
        Due.is("P3 at the end", x.insert(2, 0, 1), 1);
        Due.is("P3 ahead", x.insert(1, 0, 0), 2);
        Due.is("P3 between", x.insert(0, 0, 1), 3);
        Due.is("P3 place 0", x.line(0, 0, 0), 2);
        Due.is("P3 place 1", x.line(0, 1, 0), 3);
        Due.is("P3 place 2", x.line(0, 2, 0), 0);
        Due.is("P3 place 3", x.line(0, 3, 0), 1);
        Due.is("P3 column", x.insert(0, 1, 0), 4);
        Due.is("P3 column ahead", x.insert(0, 1, 0), 5);
        Due.is("P3 columns", x.size(0, 1), 2);
        Due.is("P3 rows", x.size(0, 0), 4);
        Due.is("P3 column place", x.change(4, 4), 1);
        Due.is("P3 an act", x.count(9), 4);
        Due.is("P3 author", x.change(0, 1), 3);
        Due.is("P3 kind of row", x.change(0, 0), 0);
        Due.is("P3 kind of column", x.change(4, 0), 2);
        Due.is("P3 state", x.change(4, 2), 0);
    }

    private static void insertErrors() {
        TrackedTable x = new TrackedTable();
        Due.is("P3 author -1", x.insert(-1, 0, 0), -1);
        Due.is("P3 author 4", x.insert(4, 0, 0), -1);
        Due.is("P3 axis -1", x.insert(0, -1, 0), -1);
        Due.is("P3 axis 2", x.insert(0, 2, 0), -1);
        Due.is("P3 axis before place", x.insert(0, 2, 9), -1);
        Due.is("P3 place -1", x.insert(0, 0, -1), -2);
        Due.is("P3 place 1", x.insert(0, 0, 1), -2);
        Due.is("P3 column place 1", x.insert(0, 1, 1), -2);
        Due.is("P3 lowest place", x.insert(0, 1, Integer.MIN_VALUE), -2);
        Due.is("P3 highest place", x.insert(0, 1, Integer.MAX_VALUE), -2);
        Due.is("P3 no act", x.count(9), 0);
        Due.is("P3 no change", x.count(0), 0);
    }

    private static void insertFull() {
        TrackedTable x = new TrackedTable();
        for (int i = 0; i < 12; i++) {
            Due.is("P3 row " + i, x.insert(0, 0, i), i);
        }
        for (int i = 0; i < 8; i++) {
            Due.is("P3 column " + i, x.insert(0, 1, i), 12 + i);
        }
        Due.is("P3 13th row", x.insert(0, 0, 12), -3);
        Due.is("P3 9th column", x.insert(0, 1, 0), -3);
        Due.is("P3 place before full", x.insert(0, 0, 13), -2);
        x.track(false);
        Due.is("P3 13th row untracked", x.insert(0, 0, 0), -3);
        Due.is("P3 9th column untracked", x.insert(0, 1, 8), -3);
    }

    private static void insertUntracked() {
        TrackedTable x = new TrackedTable();
        x.track(false);
        Due.is("P3 untracked", x.insert(0, 0, 0), 1000);
        Due.is("P3 untracked column", x.insert(0, 1, 0), 1000);
        Due.is("P3 not new", x.line(0, 0, 0), -5);
        Due.is("P3 in the old view", x.size(2, 0), 1);
        Due.is("P3 column in the old view", x.size(2, 1), 1);
        Due.is("P3 no number", x.count(0), 0);
        Due.is("P3 an act untracked", x.count(9), 3);
    }

    private static void removeErrors() {
        TrackedTable x = new TrackedTable();
        x.track(false);
        x.insert(0, 0, 0);
        x.insert(0, 1, 0);
        x.track(true);
        Due.is("P4 author -1", x.remove(-1, 0, 0), -1);
        Due.is("P4 author 4", x.remove(4, 0, 0), -1);
        Due.is("P4 axis 2", x.remove(0, 2, 0), -1);
        Due.is("P4 axis -1", x.remove(0, -1, 0), -1);
        Due.is("P4 place 1", x.remove(0, 0, 1), -1);
        Due.is("P4 place -1", x.remove(0, 1, -1), -1);
        Due.is("P4 no act", x.count(9), 4);
        Due.is("P4 row", x.remove(0, 0, 0), 0);
        Due.is("P4 kind", x.change(0, 0), 1);
        Due.is("P4 doomed", x.line(0, 0, 1), 0);
        Due.is("P4 stays", x.size(0, 0), 1);
        Due.is("P4 again", x.remove(0, 0, 0), -4);
        Due.is("P4 again by another", x.remove(1, 0, 0), -4);
        Due.is("P4 author before doom", x.remove(4, 0, 0), -1);
        Due.is("P4 column", x.remove(2, 1, 0), 1);
        Due.is("P4 column's kind", x.change(1, 0), 3);
    }

    private static void removeOfOwnNewLine() {
        TrackedTable x = new TrackedTable();
        x.insert(0, 0, 0);
        x.insert(1, 1, 0);
        x.insert(1, 1, 1);
        x.set(2, 0, 0, 5);
        x.set(3, 0, 0, 6);
        x.set(2, 0, 1, 7);
        Due.is("P4 own new column", x.remove(1, 1, 0), 1);
        Due.is("P4 gone at once", x.size(0, 1), 1);
        Due.is("P4 no change", x.count(0), 6);
        Due.is("P4 insertion dissolved", x.change(1, 2), 3);
        Due.is("P4 setting dissolved", x.change(3, 2), 3);
        Due.is("P4 upper setting dissolved", x.change(4, 2), 3);
        Due.is("P4 another cell stays", x.change(5, 2), 0);
        Due.is("P4 the row stays", x.change(0, 2), 0);
        Due.is("P4 column moved", x.change(5, 4), 0);
        Due.is("P4 gone column", x.change(3, 4), -5);
        Due.is("P4 its row", x.change(3, 3), 0);
        Due.is("P4 own new row", x.remove(0, 0, 0), 0);
        Due.is("P4 all dissolved", x.count(4), 5);
        Due.is("P4 rows left", x.size(0, 0), 0);
        Due.is("P4 undo", x.undo(), 3);
        Due.is("P4 back", x.cell(0, 0, 0), 7);
    }

    private static void removeOfOthersNewLine() {
        TrackedTable x = new TrackedTable();
        x.insert(0, 0, 0);
        Due.is("P4 another's new row", x.remove(1, 0, 0), 1);
        Due.is("P4 new and doomed", x.line(0, 0, 0), 0);
        Due.is("P4 doomed and new", x.line(0, 0, 1), 1);
        Due.is("P4 by its author, doomed", x.remove(0, 0, 0), -4);
        x.reject(1);
        Due.is("P4 by its author", x.remove(0, 0, 0), 0);
        x.insert(0, 0, 0);
        x.accept(2);
        Due.is("P4 not new any more", x.remove(0, 0, 0), 3);
    }

    private static void removeUntracked() {
        TrackedTable x = new TrackedTable();
        x.insert(0, 0, 0);
        x.insert(1, 1, 0);
        x.insert(1, 1, 1);
        x.set(2, 0, 0, 5);
        x.set(2, 0, 1, 6);
        x.remove(3, 1, 0);
        x.track(false);
        Due.is("P4 doomed, untracked", x.remove(3, 1, 0), 1000);
        Due.is("P4 its insertion", x.change(1, 2), 3);
        Due.is("P4 its setting", x.change(3, 2), 3);
        Due.is("P4 its removal", x.change(5, 2), 3);
        Due.is("P4 other setting", x.change(4, 2), 0);
        Due.is("P4 columns", x.size(0, 1), 1);
        Due.is("P4 moved value", x.cell(0, 0, 0), 6);
        Due.is("P4 no such column", x.remove(0, 1, 1), -1);
        Due.is("P4 row, untracked", x.remove(3, 0, 0), 1000);
        Due.is("P4 nothing pending but a column", x.count(1), 1);
    }

    private static TrackedTable oneCell() {
        TrackedTable x = new TrackedTable();
        x.track(false);
        x.insert(0, 0, 0);
        x.insert(0, 1, 0);
        x.track(true);
        return x;
    }

    private static void setAndSetAgain() {
        TrackedTable x = oneCell();
        Due.is("P5 set", x.set(0, 0, 0, 5), 0);
        Due.is("P5 kind", x.change(0, 0), 4);
        Due.is("P5 value", x.cell(0, 0, 0), 5);
        Due.is("P5 base", x.cell(2, 0, 0), 0);
        Due.is("P5 again", x.set(0, 0, 0, 6), 0);
        Due.is("P5 new value", x.change(0, 5), 6);
        Due.is("P5 over", x.set(1, 0, 0, 9999), 1);
        Due.is("P5 the first author over it", x.set(0, 0, 0, 1), 2);
        Due.is("P5 as below", x.set(0, 0, 0, 9999), 2);
        Due.is("P5 dissolved", x.change(2, 2), 3);
        Due.is("P5 with this value", x.change(2, 5), 9999);
        Due.is("P5 value below counts", x.cell(1, 0, 0), 9999);
        Due.is("P5 as below, the second", x.set(1, 0, 0, 6), 1);
        Due.is("P5 as the base", x.set(0, 0, 0, 0), 0);
        Due.is("P5 none left", x.count(8), 0);
        Due.is("P5 all dissolved", x.count(4), 3);
        Due.is("P5 acts", x.count(9), 4);
        Due.is("P5 another may set the value below", x.set(0, 0, 0, 3), 3);
        Due.is("P5 back to the base by another", x.set(1, 0, 0, 0), 4);
        Due.is("P5 two pending", x.count(8), 2);
    }

    private static void setErrors() {
        TrackedTable x = oneCell();
        Due.is("P5 author -1", x.set(-1, 0, 0, 1), -1);
        Due.is("P5 author 4", x.set(4, 0, 0, 1), -1);
        Due.is("P5 row -1", x.set(0, -1, 0, 1), -1);
        Due.is("P5 row 1", x.set(0, 1, 0, 1), -1);
        Due.is("P5 column -1", x.set(0, 0, -1, 1), -1);
        Due.is("P5 column 1", x.set(0, 0, 1, 1), -1);
        Due.is("P5 column before value", x.set(0, 0, 1, -1), -1);
        Due.is("P5 value -1", x.set(0, 0, 0, -1), -2);
        Due.is("P5 value 10000", x.set(0, 0, 0, 10000), -2);
        Due.is("P5 has it already", x.set(0, 0, 0, 0), -4);
        Due.is("P5 no act", x.count(9), 4);
        Due.is("P5 highest", x.set(0, 0, 0, 9999), 0);
        Due.is("P5 has its setting already", x.set(1, 0, 0, 9999), -4);
        Due.is("P5 its own, too", x.set(0, 0, 0, 9999), -4);
    }

    private static void setOfDoomed() {
        TrackedTable x = oneCell();
        x.remove(1, 0, 0);
        Due.is("P5 doomed row", x.set(0, 0, 0, 1), -4);
        Due.is("P5 value before doom", x.set(0, 0, 0, -1), -2);
        x.track(false);
        Due.is("P5 doomed row, untracked", x.set(0, 0, 0, 1), -4);
        x.reject(0);
        x.track(true);
        x.remove(1, 1, 0);
        Due.is("P5 doomed column", x.set(0, 0, 0, 1), -4);
        x.track(false);
        Due.is("P5 doomed column, untracked", x.set(1, 0, 0, 1), -4);
    }

    private static void setUntracked() {
        TrackedTable x = oneCell();
        x.set(0, 0, 0, 5);
        x.set(1, 0, 0, 6);
        x.track(false);
        Due.is("P5 value already, untracked", x.set(0, 0, 0, 6), -4);
        Due.is("P5 base again, untracked", x.set(0, 0, 0, 0), 1000);
        Due.is("P5 both dissolved", x.count(4), 2);
        Due.is("P5 their value stays", x.change(1, 5), 6);
        Due.is("P5 cell", x.cell(0, 0, 0), 0);
        Due.is("P5 untracked", x.set(0, 0, 0, 44), 1000);
        Due.is("P5 old view", x.cell(2, 0, 0), 44);
        Due.is("P5 no number", x.count(0), 2);
    }

    private static void sixtyChanges() {
        TrackedTable x = oneCell();
        x.insert(0, 0, 1);
        for (int i = 1; i < 60; i++) {
            Due.is("P5 change " + i, x.set(i % 4, 0, 0, i), i);
        }
        Due.is("P3 61st change", x.insert(0, 0, 0), -3);
        Due.is("P4 61st change", x.remove(1, 0, 0), -3);
        Due.is("P4 another's new line", x.remove(1, 0, 1), -3);
        Due.is("P5 61st change", x.set(0, 0, 0, 77), -3);
        Due.is("P5 has it before full", x.set(0, 0, 0, 59), -4);
        Due.is("P5 again needs no room", x.set(3, 0, 0, 77), 59);
        Due.is("P4 own new line needs no room", x.remove(0, 0, 1), 0);
        Due.is("P2 track needs no room", x.track(false), 59);
        Due.is("P3 untracked needs no room", x.insert(0, 0, 0), 1000);
        Due.is("P5 untracked needs no room", x.set(0, 0, 0, 3), 1000);
        Due.is("P4 untracked needs no room", x.remove(0, 0, 0), 1000);
        Due.is("P22 made", x.count(0), 60);
    }

    private static void newCellsHaveZero() {
        TrackedTable x = oneCell();
        x.track(false);
        x.set(0, 0, 0, 9);
        x.remove(0, 0, 0);
        x.insert(0, 0, 0);
        Due.is("P3 zero after a removed row", x.cell(0, 0, 0), 0);
        x.set(0, 0, 0, 9);
        x.remove(0, 1, 0);
        x.insert(0, 1, 0);
        Due.is("P3 zero after a removed column", x.cell(0, 0, 0), 0);
        x.set(0, 0, 0, 9);
        x.insert(0, 0, 0);
        x.insert(0, 1, 0);
        Due.is("P3 new row and column", x.cell(0, 0, 0), 0);
        Due.is("P3 new row", x.cell(0, 0, 1), 0);
        Due.is("P3 moved on", x.cell(0, 1, 1), 9);
    }
}
