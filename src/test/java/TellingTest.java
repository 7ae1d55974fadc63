/** Promises 13 to 22: size, cell, line, setting, change, restsOn, pending, author, sum, count. */
public final class TellingTest {
    private static final int[] WRONG = {-1, Integer.MIN_VALUE, 100, Integer.MAX_VALUE};

    public static void main(String[] args) {
        constants();
        size();
        cell();
        line();
        setting();
        change();
        changeOfGoneLines();
        restsOn();
        pending();
        author();
        sum();
        count();
        wrongInputs();
        tellingIsNoAct();
        Due.finish();
    }

    private static void constants() {
        Due.is("UNKNOWN", TrackedTable.UNKNOWN, -1);
        Due.is("BAD_VALUE", TrackedTable.BAD_VALUE, -2);
        Due.is("FULL", TrackedTable.FULL, -3);
        Due.is("NOT_POSSIBLE", TrackedTable.NOT_POSSIBLE, -4);
        Due.is("NONE", TrackedTable.NONE, -5);
        Due.is("UNTRACKED", TrackedTable.UNTRACKED, 1000);
    }

    /**
     * Rows: 0 doomed (change 0), 1 new (1), 2 plain, 3 new and doomed (2, 3). Columns: 0 plain,
     * 1 new (4), 2 doomed (5). Values: row 1 has 10, 11, 12; row 2 has 20, 21, 22 over 100 in
     * column 0 and 300 in column 2; row 0 has 1 over 0.
     */
    private static TrackedTable example() {
        TrackedTable x = new TrackedTable();
        x.track(false);
        x.insert(0, 0, 0);
        x.insert(0, 0, 1);
        x.insert(0, 1, 0);
        x.insert(0, 1, 1);
        x.set(0, 1, 0, 100);
        x.set(0, 1, 1, 300);
        x.set(0, 0, 0, 40);
        x.track(true);
        x.set(3, 0, 0, 1);
        x.insert(0, 0, 1);
        x.insert(0, 0, 3);
        x.insert(1, 1, 1);
        x.set(0, 1, 0, 10);
        x.set(0, 1, 1, 11);
        x.set(0, 1, 2, 12);
        x.set(1, 2, 0, 20);
        x.set(1, 2, 1, 21);
        x.set(1, 2, 2, 22);
        x.set(2, 3, 1, 31);
        x.set(2, 2, 2, 23);
        x.remove(2, 0, 0);
        x.remove(2, 0, 3);
        x.remove(2, 1, 2);
        return x;
    }

    private static void size() {
        TrackedTable x = example();
        Due.is("P13 rows", x.size(0, 0), 4);
        Due.is("P13 clean rows", x.size(1, 0), 2);
        Due.is("P13 old rows", x.size(2, 0), 2);
        Due.is("P13 columns", x.size(0, 1), 3);
        Due.is("P13 clean columns", x.size(1, 1), 2);
        Due.is("P13 old columns", x.size(2, 1), 2);
        Due.is("P13 view -1", x.size(-1, 0), -1);
        Due.is("P13 view 3", x.size(3, 0), -1);
        Due.is("P13 axis -1", x.size(0, -1), -1);
        Due.is("P13 axis 2", x.size(0, 2), -1);
    }

    private static void cell() {
        TrackedTable x = example();
        int[][] full = {{1, 0, 0}, {10, 11, 12}, {20, 21, 23}, {0, 31, 0}};
        int[][] clean = {{10, 11}, {20, 21}};
        int[][] old = {{40, 0}, {100, 300}};
        int[][][] views = {full, clean, old};
        for (int view = 0; view < 3; view++) {
            for (int row = -1; row <= views[view].length; row++) {
                for (int column = -1; column <= views[view][0].length; column++) {
                    boolean there = row >= 0 && row < views[view].length
                            && column >= 0 && column < views[view][0].length;
                    int want = there ? views[view][row][column] : -1;
                    Due.is("P14 " + view + ", " + row + ", " + column, x.cell(view, row, column), want);
                }
            }
        }
        Due.is("P14 view -1", x.cell(-1, 0, 0), -1);
        Due.is("P14 view 3", x.cell(3, 0, 0), -1);
    }

    private static void line() {
        TrackedTable x = example();
        int[][] rows = {{-5, 12, -5, 0, 1}, {1, -5, 0, -5, 3}, {-5, -5, 1, 1, 4}, {2, 13, -5, -5, 1}};
        int[][] columns = {{-5, -5, 0, 0, 3}, {3, -5, 1, -5, 3}, {-5, 14, -5, 1, 3}};
        int[][][] axes = {rows, columns};
        for (int axis = 0; axis < 2; axis++) {
            for (int place = 0; place < axes[axis].length; place++) {
                for (int what = 0; what < 5; what++) {
                    Due.is("P15 " + axis + ", " + place + ", " + what,
                            x.line(axis, place, what), axes[axis][place][what]);
                }
            }
        }
        Due.is("P15 axis 2", x.line(2, 0, 0), -1);
        Due.is("P15 axis -1", x.line(-1, 0, 9), -1);
        Due.is("P15 row 4", x.line(0, 4, 0), -1);
        Due.is("P15 column 3", x.line(1, 3, 9), -1);
        Due.is("P15 place -1", x.line(1, -1, 0), -1);
        Due.is("P15 what -1", x.line(0, 0, -1), -2);
        Due.is("P15 what 5", x.line(0, 0, 5), -2);
    }

    private static void setting() {
        TrackedTable x = example();
        Due.is("P16 lowest", x.setting(2, 2, 0), 9);
        Due.is("P16 over it", x.setting(2, 2, 1), 11);
        Due.is("P16 not so many", x.setting(2, 2, 2), -5);
        Due.is("P16 none", x.setting(3, 0, 0), -5);
        Due.is("P16 highest level", x.setting(2, 2, Integer.MAX_VALUE), -5);
        Due.is("P16 level -1", x.setting(2, 2, -1), -2);
        Due.is("P16 row before level", x.setting(4, 2, -1), -1);
        Due.is("P16 row -1", x.setting(-1, 0, 0), -1);
        Due.is("P16 column 3", x.setting(0, 3, 0), -1);
        Due.is("P16 column -1", x.setting(0, -1, 0), -1);
        x.accept(9);
        Due.is("P16 now the lowest", x.setting(2, 2, 0), 11);
    }

    private static void change(TrackedTable x, int number, int... facts) {
        for (int what = 0; what < facts.length; what++) {
            Due.is("P17 change(" + number + ", " + what + ")", x.change(number, what), facts[what]);
        }
    }

    private static void change() {
        TrackedTable x = example();
        change(x, 0, 4, 3, 0, 0, 0, 1, 40, 0, 0);
        change(x, 1, 0, 0, 0, 1, -5, -5, -5, 0, 3);
        change(x, 2, 0, 0, 0, 3, -5, -5, -5, 0, 2);
        change(x, 3, 2, 1, 0, -5, 1, -5, -5, 0, 3);
        change(x, 5, 4, 0, 0, 1, 1, 11, 0, 2, 0);
        change(x, 9, 4, 1, 0, 2, 2, 22, 300, 0, 1);
        change(x, 11, 4, 2, 0, 2, 2, 23, 22, 1, 0);
        change(x, 12, 1, 2, 0, 0, -5, -5, -5, 0, 0);
        change(x, 13, 1, 2, 0, 3, -5, -5, -5, 1, 0);
        change(x, 14, 3, 2, 0, -5, 2, -5, -5, 0, 0);
        Due.is("P17 not made", x.change(15, 0), -1);
        Due.is("P17 negative", x.change(-1, 0), -1);
        Due.is("P17 change before what", x.change(-1, 9), -1);
        Due.is("P17 what -1", x.change(0, -1), -2);
        Due.is("P17 what 9", x.change(0, 9), -2);
        x.accept(11);
        change(x, 9, 4, 1, 1, 2, 2, 22, -5, 0, 0);
        change(x, 11, 4, 2, 1, 2, 2, 23, -5, 0, 0);
        x.reject(5);
        change(x, 5, 4, 0, 2, 1, 1, 11, -5, 0, 0);
        x.accept(1);
        change(x, 1, 0, 0, 1, 1, -5, -5, -5, 0, 0);
    }

    private static void changeOfGoneLines() {
        TrackedTable x = example();
        x.accept(13);
        change(x, 2, 0, 0, 1, -5, -5, -5, -5, 0, 0);
        change(x, 10, 4, 2, 3, -5, 1, 31, -5, 0, 0);
        change(x, 13, 1, 2, 1, -5, -5, -5, -5, 0, 0);
        x.insert(0, 0, 3);
        change(x, 10, 4, 2, 3, -5, 1);
        change(x, 2, 0, 0, 1, -5);
        x.reject(3);
        change(x, 10, 4, 2, 3, -5, -5);
        change(x, 9, 4, 1, 0, 2, 1);
        x.insert(0, 1, 0);
        change(x, 9, 4, 1, 0, 2, 2);
    }

    private static void restsOn() {
        TrackedTable x = example();
        int[][] rests = {{4, 1}, {5, 1}, {5, 3}, {6, 1}, {8, 3}, {10, 2}, {10, 3}, {11, 9}, {13, 2}};
        for (int one = 0; one < 15; one++) {
            for (int other = 0; other < 15; other++) {
                int want = one == other ? -2 : 0;
                for (int[] pair : rests) {
                    want = pair[0] == one && pair[1] == other ? 1 : want;
                }
                Due.is("P18 " + one + " on " + other, x.restsOn(one, other), want);
            }
        }
        Due.is("P18 unknown one", x.restsOn(15, 0), -1);
        Due.is("P18 unknown other", x.restsOn(0, -1), -1);
        Due.is("P18 unknown before same", x.restsOn(15, 15), -1);
        x.accept(3);
        Due.is("P18 accepted", x.restsOn(5, 3), 0);
        Due.is("P18 the row still", x.restsOn(5, 1), 1);
        x.set(3, 1, 1, 99);
        x.set(2, 1, 1, 98);
        Due.is("P18 two levels", x.restsOn(16, 5), 1);
        Due.is("P18 not upwards", x.restsOn(5, 16), 0);
        Due.is("P18 through the row", x.restsOn(16, 1), 1);
    }

    private static void pending() {
        TrackedTable x = example();
        int[] order = {12, 1, 2, 13, 3, 14, 0, 4, 5, 6, 7, 8, 9, 11, 10};
        for (int place = 0; place < order.length; place++) {
            Due.is("P19 " + place, x.pending(place), order[place]);
        }
        Due.is("P19 not so many", x.pending(15), -5);
        Due.is("P19 highest", x.pending(Integer.MAX_VALUE), -5);
        Due.is("P19 -1", x.pending(-1), -2);
        Due.is("P19 lowest", x.pending(Integer.MIN_VALUE), -2);
    }

    private static void author() {
        TrackedTable x = example();
        int[] made = {5, 4, 5, 1};
        for (int author = 0; author < 4; author++) {
            Due.is("P20 pending of " + author, x.author(author, 0), made[author]);
        }
        x.accept(5);
        x.reject(9);
        x.remove(0, 0, 1);
        x.set(1, 2, 2, 300);
        x.set(1, 2, 0, 100);
        Due.is("P20 accepted of 0", x.author(0, 1), 2);
        Due.is("P20 accepted of 1", x.author(1, 1), 1);
        Due.is("P20 rejected of 1", x.author(1, 2), 1);
        Due.is("P20 rejected of 2", x.author(2, 2), 1);
        Due.is("P20 dissolved of 1", x.author(1, 3), 1);
        Due.is("P20 dissolved of 3", x.author(3, 3), 0);
        Due.is("P20 author -1", x.author(-1, 0), -1);
        Due.is("P20 author 4", x.author(4, 9), -1);
        Due.is("P20 state -1", x.author(0, -1), -2);
        Due.is("P20 state 4", x.author(0, 4), -2);
    }

    private static void sum() {
        TrackedTable x = example();
        Due.is("P21 full", x.sum(0), 1 + 33 + 64 + 31);
        Due.is("P21 clean", x.sum(1), 21 + 41);
        Due.is("P21 old", x.sum(2), 440);
        Due.is("P21 view -1", x.sum(-1), -1);
        Due.is("P21 view 3", x.sum(3), -1);
        TrackedTable y = new TrackedTable();
        y.track(false);
        for (int row = 0; row < 12; row++) {
            y.insert(0, 0, 0);
        }
        for (int column = 0; column < 8; column++) {
            y.insert(0, 1, 0);
        }
        for (int cell = 0; cell < 96; cell++) {
            y.set(0, cell / 8, cell % 8, 9999);
        }
        Due.is("P21 the most", y.sum(2), 96 * 9999);
    }

    private static void count() {
        TrackedTable x = example();
        x.type('+');
        x.type('r');
        int[] first = {15, 15, 0, 0, 0, 1, 3, 3, 9, 4, 2};
        for (int what = 0; what < first.length; what++) {
            Due.is("P22 count(" + what + ")", x.count(what), first[what]);
        }
        x.accept(13);
        x.reject(1);
        x.track(false);
        int[] then = {15, 8, 2, 4, 1, 0, 1, 2, 5, 4, 2};
        for (int what = 0; what < then.length; what++) {
            Due.is("P22 then count(" + what + ")", x.count(what), then[what]);
        }
        Due.is("P22 what -1", x.count(-1), -2);
        Due.is("P22 what 11", x.count(11), -2);
    }

    private static void wrongInputs() {
        TrackedTable x = example();
        for (int wrong : WRONG) {
            Due.is("P13 wrong view", x.size(wrong, 0), -1);
            Due.is("P13 wrong axis", x.size(0, wrong), -1);
            Due.is("P14 wrong row", x.cell(0, wrong, 0), -1);
            Due.is("P14 wrong column", x.cell(0, 0, wrong), -1);
            Due.is("P15 wrong place", x.line(0, wrong, 0), -1);
            Due.is("P15 wrong what", x.line(0, 0, wrong), -2);
            Due.is("P16 wrong row", x.setting(wrong, 0, 0), -1);
            Due.is("P17 wrong change", x.change(wrong, 0), -1);
            Due.is("P17 wrong what", x.change(0, wrong), -2);
            Due.is("P18 wrong change", x.restsOn(wrong, 0), -1);
            Due.is("P20 wrong author", x.author(wrong, 0), -1);
            Due.is("P20 wrong state", x.author(0, wrong), -2);
            Due.is("P21 wrong view", x.sum(wrong), -1);
            Due.is("P22 wrong what", x.count(wrong), -2);
        }
    }

    private static void tellingIsNoAct() {
        TrackedTable x = example();
        x.undo();
        x.size(0, 0);
        x.cell(0, 0, 0);
        x.line(0, 0, 4);
        x.setting(0, 0, 0);
        x.change(0, 8);
        x.restsOn(0, 1);
        x.pending(0);
        x.author(0, 0);
        x.sum(0);
        Due.is("P22 states", x.count(9), 3);
        Due.is("P12 the state before", x.undo(), 2);
    }
}
