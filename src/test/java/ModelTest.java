/** Long runs of calls, each answer beside that of Model; the runs are the same every time. */
public final class ModelTest {
    private static final int RUNS = 240;
    private static final int CALLS = 512;
    private static final int[] ODD = {-1, -2, 4, 12, 13, 60, 9999, 10000, Integer.MIN_VALUE, Integer.MAX_VALUE};
    private static final String SIGNS = "+-rc0123456789.= x";

    private long seed;
    private final int run;
    private final TrackedTable table = new TrackedTable();
    private final Model model = new Model();

    private ModelTest(int run) {
        this.run = run;
        this.seed = 88172645463325252L + 7919L * run;
    }

    public static void main(String[] args) {
        for (int run = 0; run < RUNS; run++) {
            new ModelTest(run).go();
        }
        Due.finish();
    }

    private int below(int bound) {
        seed = seed * 6364136223846793005L + 1442695040888963407L;
        return (int) ((seed >>> 33) % bound);
    }

    private int mostly(int bound) {
        return below(40) == 0 ? ODD[below(ODD.length)] : below(Math.max(bound, 1));
    }

    private void go() {
        for (int i = 0; i < CALLS; i++) {
            act();
            if (i % 16 == run % 16) {
                look();
            } else {
                ask();
            }
        }
    }

    private void is(String call, long got, long want) {
        Due.is("run " + run + ": " + call, got, want);
    }

    private int change() {
        return mostly(table.count(0) + (below(10) == 0 ? 1 : 0));
    }

    private int place(int axis, int more) {
        return mostly(table.size(0, axis) + more);
    }

    private int value() {
        return below(10) == 0 ? mostly(10000) : mostly(4);
    }

    // Some runs settle often, so that changes stay few; others let them grow to 60.
    private void act() {
        int kind = below(100);
        int author = mostly(1 + run % 4);
        if (kind < 14) {
            int axis = mostly(2);
            int place = place(axis == 0 ? 0 : 1, 1);
            is("insert " + author + " " + axis + " " + place, table.insert(author, axis, place),
                    model.insert(author, axis, place));
        } else if (kind < 22) {
            int axis = mostly(2);
            int place = place(axis == 0 ? 0 : 1, 0);
            is("remove " + author + " " + axis + " " + place, table.remove(author, axis, place),
                    model.remove(author, axis, place));
        } else if (kind < 52) {
            int row = run % 3 == 0 ? mostly(2) : place(0, 0);
            int column = run % 3 == 0 ? mostly(2) : place(1, 0);
            int value = value();
            is("set " + author + " " + row + " " + column + " " + value, table.set(author, row, column, value),
                    model.set(author, row, column, value));
        } else if (kind < 58) {
            int change = change();
            is("accept " + change, table.accept(change), model.accept(change));
        } else if (kind < 62) {
            int change = change();
            is("reject " + change, table.reject(change), model.reject(change));
        } else if (kind < 64) {
            int one = below(3) == 0 ? -1 : author;
            boolean accepted = below(2) == 0;
            is("settle " + one + " " + accepted, table.settle(one, accepted), model.settle(one, accepted));
        } else if (kind < 68) {
            boolean tracked = below(3) != 0;
            is("track " + tracked, table.track(tracked), model.track(tracked));
        } else if (kind < 78) {
            is("undo", table.undo(), model.undo());
        } else if (kind < 86) {
            write(author);
        } else {
            write("" + SIGNS.charAt(below(SIGNS.length())));
        }
    }

    private void write(int author) {
        if (below(3) != 0) {
            is("clearText", table.clearText(), model.clearText());
        }
        StringBuilder text = new StringBuilder(table.count(10) == 0 ? "" : " ");
        int orders = 1 + below(6);
        for (int i = 0; i < orders; i++) {
            text.append(i == 0 ? "" : " ").append(order());
        }
        if (below(4) == 0) {
            text.setCharAt(below(text.length()), SIGNS.charAt(below(SIGNS.length())));
        }
        write(text.toString());
        is("run " + author + " of " + text, table.run(author), model.run(author));
    }

    private String order() {
        int axis = below(2);
        int kind = below(4);
        if (kind < 2) {
            int place = below(table.size(0, axis) + 2);
            return (kind == 0 ? "+" : "-") + (axis == 0 ? "r" : "c") + place;
        }
        return below(table.size(0, 0) + 1) + "." + below(table.size(0, 1) + 1) + "=" + below(below(5) == 0 ? 10000 : 4);
    }

    private void write(String text) {
        for (int i = 0; i < text.length(); i++) {
            char sign = text.charAt(i);
            is("type " + sign, table.type(sign), model.type(sign));
        }
    }

    private void ask() {
        int view = mostly(3);
        int axis = mostly(2);
        int row = place(0, 1);
        int column = place(1, 1);
        int one = change();
        int other = change();
        int what = mostly(11);
        is("size", table.size(view, axis), model.size(view, axis));
        is("cell", table.cell(view, row, column), model.cell(view, row, column));
        is("line", table.line(axis, row, what), model.line(axis, row, what));
        is("setting", table.setting(row, column, what), model.setting(row, column, what));
        is("change", table.change(one, what), model.change(one, what));
        is("restsOn", table.restsOn(one, other), model.restsOn(one, other));
        is("pending", table.pending(one), model.pending(one));
        is("author", table.author(axis, what), model.author(axis, what));
        is("sum", table.sum(view), model.sum(view));
        is("count", table.count(what), model.count(what));
    }

    private void look() {
        for (int what = -1; what <= 11; what++) {
            is("count " + what, table.count(what), model.count(what));
        }
        for (int view = -1; view <= 3; view++) {
            is("sum " + view, table.sum(view), model.sum(view));
            is("rows " + view, table.size(view, 0), model.size(view, 0));
            is("columns " + view, table.size(view, 1), model.size(view, 1));
            for (int cell = 0; cell < 12 * 8; cell++) {
                is("cell " + view, table.cell(view, cell / 8, cell % 8), model.cell(view, cell / 8, cell % 8));
            }
        }
        for (int place = -1; place <= 12; place++) {
            for (int what = -1; what <= 5; what++) {
                is("row " + place + " " + what, table.line(0, place, what), model.line(0, place, what));
                is("column " + place + " " + what, table.line(1, place, what), model.line(1, place, what));
            }
        }
        for (int number = -1; number <= table.count(0); number++) {
            for (int what = -1; what <= 9; what++) {
                is("change " + number + " " + what, table.change(number, what), model.change(number, what));
            }
            is("pending " + number, table.pending(number), model.pending(number));
        }
        for (int author = -1; author <= 4; author++) {
            for (int state = -1; state <= 4; state++) {
                is("author " + author + " " + state, table.author(author, state), model.author(author, state));
            }
        }
    }
}
