/** Promises 6 to 8: accept, reject, settle. */
public final class AcceptingTest {
    public static void main(String[] args) {
        acceptErrors();
        acceptSettings();
        acceptWithLines();
        acceptRemoval();
        acceptRemovalOfNewLine();
        rejectErrors();
        rejectSettings();
        rejectInsertion();
        rejectRemoval();
        settleErrors();
        settleOne();
        settleAll();
        settleDissolves();
        Due.finish();
    }

    private static TrackedTable twoByTwo() {
        TrackedTable x = new TrackedTable();
        x.track(false);
        x.insert(0, 0, 0);
        x.insert(0, 0, 0);
        x.insert(0, 1, 0);
        x.insert(0, 1, 0);
        x.track(true);
        return x;
    }

    private static void acceptErrors() {
        TrackedTable x = twoByTwo();
        Due.is("P6 none made", x.accept(0), -1);
        x.set(0, 0, 0, 1);
        Due.is("P6 not made yet", x.accept(1), -1);
        Due.is("P6 negative", x.accept(-1), -1);
        Due.is("P6 lowest", x.accept(Integer.MIN_VALUE), -1);
        Due.is("P6 highest", x.accept(Integer.MAX_VALUE), -1);
        Due.is("P6 accept", x.accept(0), 1);
        Due.is("P6 not pending", x.accept(0), -4);
        Due.is("P6 nor to be rejected", x.reject(0), -4);
        Due.is("P6 an act, once", x.count(9), 4);
        x.undo();
        Due.is("P6 undone", x.change(0, 2), 0);
    }

    private static void acceptSettings() {
        TrackedTable x = twoByTwo();
        x.set(0, 1, 0, 5);
        x.set(1, 1, 0, 6);
        x.set(2, 1, 0, 7);
        Due.is("P6 with the one below", x.accept(1), 2);
        Due.is("P6 base", x.cell(2, 1, 0), 6);
        Due.is("P6 value", x.cell(1, 1, 0), 7);
        Due.is("P6 upper stays", x.change(2, 2), 0);
        Due.is("P6 lower accepted", x.change(0, 2), 1);
        Due.is("P6 below is the base", x.change(2, 6), 6);
        Due.is("P6 back to the base", x.set(2, 1, 0, 6), 2);
        Due.is("P6 dissolved", x.change(2, 2), 3);
        Due.is("P6 others stay", x.sum(0), 6);
    }

    private static void acceptWithLines() {
        TrackedTable x = twoByTwo();
        x.insert(0, 0, 2);
        x.insert(1, 1, 2);
        x.set(2, 2, 2, 8);
        x.remove(3, 0, 2);
        Due.is("P6 with its lines", x.accept(2), 3);
        Due.is("P6 row not new", x.line(0, 2, 0), -5);
        Due.is("P6 column not new", x.line(1, 2, 0), -5);
        Due.is("P6 still doomed", x.line(0, 2, 1), 3);
        Due.is("P6 old view", x.cell(2, 2, 2), 8);
        Due.is("P6 rests on nothing now", x.change(3, 7), 0);
        Due.is("P6 removal alone", x.accept(3), 1);
        Due.is("P6 accepted ones", x.count(2), 4);
    }

    private static void acceptRemoval() {
        TrackedTable x = twoByTwo();
        x.set(0, 0, 0, 5);
        x.set(1, 0, 0, 6);
        x.set(1, 1, 0, 7);
        x.remove(2, 0, 0);
        Due.is("P6 removal", x.accept(3), 1);
        Due.is("P6 removed", x.size(0, 0), 1);
        Due.is("P6 setting dissolved", x.change(0, 2), 3);
        Due.is("P6 upper one dissolved", x.change(1, 2), 3);
        Due.is("P6 other row's stays", x.change(2, 2), 0);
        Due.is("P6 moved", x.change(2, 3), 0);
        Due.is("P6 gone", x.change(3, 3), -5);
        Due.is("P6 value moved", x.cell(0, 0, 0), 7);
    }

    private static void acceptRemovalOfNewLine() {
        TrackedTable x = twoByTwo();
        x.insert(0, 1, 0);
        x.set(1, 0, 0, 7);
        x.remove(2, 1, 0);
        Due.is("P6 with its insertion", x.accept(2), 2);
        Due.is("P6 insertion accepted", x.change(0, 2), 1);
        Due.is("P6 its setting dissolved", x.change(1, 2), 3);
        Due.is("P6 column gone", x.size(0, 1), 2);
        Due.is("P6 nothing pending", x.count(1), 0);
    }

    private static void rejectErrors() {
        TrackedTable x = twoByTwo();
        Due.is("P7 none made", x.reject(0), -1);
        x.set(0, 0, 0, 1);
        Due.is("P7 not made yet", x.reject(1), -1);
        Due.is("P7 negative", x.reject(-1), -1);
        Due.is("P7 reject", x.reject(0), 1);
        Due.is("P7 not pending", x.reject(0), -4);
        Due.is("P7 nor to be accepted", x.accept(0), -4);
        Due.is("P7 state", x.change(0, 2), 2);
        x.undo();
        Due.is("P7 undone", x.cell(0, 0, 0), 1);
    }

    private static void rejectSettings() {
        TrackedTable x = twoByTwo();
        x.set(0, 0, 1, 5);
        x.set(1, 0, 1, 6);
        x.set(2, 0, 1, 7);
        x.set(2, 1, 1, 8);
        Due.is("P7 with those over it", x.reject(1), 2);
        Due.is("P7 the one below stays", x.cell(0, 0, 1), 5);
        Due.is("P7 upper rejected", x.change(2, 2), 2);
        Due.is("P7 another cell stays", x.change(3, 2), 0);
        Due.is("P7 its value is told", x.change(2, 5), 7);
        Due.is("P7 its author sets again", x.set(0, 0, 1, 9), 0);
    }

    private static void rejectInsertion() {
        TrackedTable x = twoByTwo();
        x.insert(0, 0, 1);
        x.set(1, 1, 0, 5);
        x.set(2, 1, 0, 6);
        x.set(2, 2, 0, 7);
        x.remove(3, 0, 1);
        Due.is("P7 with all that rests on it", x.reject(0), 4);
        Due.is("P7 row gone", x.size(0, 0), 2);
        Due.is("P7 removal rejected", x.change(4, 2), 2);
        Due.is("P7 row moved", x.change(3, 3), 1);
        Due.is("P7 no row", x.change(1, 3), -5);
        Due.is("P7 none dissolved", x.count(4), 0);
        x.insert(0, 1, 0);
        Due.is("P7 a column", x.reject(5), 1);
        Due.is("P7 column gone", x.size(0, 1), 2);
    }

    private static void rejectRemoval() {
        TrackedTable x = twoByTwo();
        x.remove(3, 0, 1);
        Due.is("P7 removal", x.reject(0), 1);
        Due.is("P7 not doomed", x.line(0, 1, 1), -5);
        Due.is("P7 row stays", x.size(1, 0), 2);
        Due.is("P7 its place is told", x.change(0, 3), 1);
        Due.is("P7 can be set", x.set(0, 1, 1, 1), 1);
        Due.is("P7 can be removed", x.remove(0, 0, 1), 2);
    }

    private static void settleErrors() {
        TrackedTable x = twoByTwo();
        Due.is("P8 author -2", x.settle(-2, true), -1);
        Due.is("P8 author 4", x.settle(4, true), -1);
        Due.is("P8 none", x.settle(-1, true), -4);
        Due.is("P8 none of one", x.settle(0, false), -4);
        x.set(1, 0, 0, 1);
        Due.is("P8 none of this one", x.settle(0, true), -4);
        Due.is("P8 no act", x.count(9), 4);
        Due.is("P8 all", x.settle(-1, true), 1);
        Due.is("P8 none any more", x.settle(1, true), -4);
        Due.is("P8 undo", x.undo(), 3);
        Due.is("P8 pending again", x.count(1), 1);
    }

    private static void settleOne() {
        TrackedTable x = twoByTwo();
        x.set(0, 0, 0, 1);
        x.set(1, 0, 0, 2);
        x.set(0, 0, 0, 3);
        x.set(1, 0, 0, 4);
        x.set(2, 1, 1, 5);
        Due.is("P8 of whichever author", x.settle(1, true), 4);
        Due.is("P8 base", x.cell(2, 0, 0), 4);
        Due.is("P8 other author's stays", x.change(4, 2), 0);
        x.undo();
        Due.is("P8 rejected with those over them", x.settle(1, false), 3);
        Due.is("P8 the lowest stays", x.cell(0, 0, 0), 1);
        Due.is("P8 two pending", x.count(1), 2);
    }

    private static void settleAll() {
        TrackedTable x = new TrackedTable();
        x.insert(0, 0, 0);
        x.insert(1, 1, 0);
        x.set(2, 0, 0, 9);
        Due.is("P8 all accepted", x.settle(-1, true), 3);
        Due.is("P8 old view", x.sum(2), 9);
        x.undo();
        Due.is("P8 all rejected", x.settle(-1, false), 3);
        Due.is("P8 empty", x.size(0, 0) + x.size(0, 1), 0);
        Due.is("P8 rejected ones", x.count(3), 3);
    }

    private static void settleDissolves() {
        TrackedTable x = twoByTwo();
        x.remove(0, 0, 0);
        x.reject(0);
        x.set(1, 0, 0, 5);
        x.remove(0, 0, 0);
        Due.is("P8 the dissolved one does not count", x.settle(0, true), 1);
        Due.is("P8 dissolved", x.change(1, 2), 3);
        TrackedTable y = twoByTwo();
        y.set(1, 0, 0, 5);
        y.remove(0, 0, 0);
        Due.is("P8 lowest number first", y.settle(-1, true), 2);
        Due.is("P8 accepted before its row goes", y.change(0, 2), 1);
    }
}
