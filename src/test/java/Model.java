import java.util.ArrayList;
import java.util.Collections;
import java.util.Comparator;
import java.util.HashMap;
import java.util.List;
import java.util.Map;
import java.util.TreeSet;
import java.util.regex.Matcher;
import java.util.regex.Pattern;

/**
 * The document told a second time, close to its words and with no thought of cost: lines and
 * changes are objects, resting is a graph that is followed, an undo takes a deep copy.
 */
final class Model {
    private static final int UNKNOWN = -1, BAD_VALUE = -2, FULL = -3, NOT_POSSIBLE = -4, NONE = -5;
    private static final int UNTRACKED = 1000;
    private static final String PLACE = "(?:0|[1-9][0-9]?)";
    private static final String ORDER =
            "(?:[+-][rc]" + PLACE + "|" + PLACE + "\\." + PLACE + "=(?:0|[1-9][0-9]{0,3}))";
    private static final Pattern TEXT = Pattern.compile(ORDER + "(?: " + ORDER + ")*");

    private static final class Line {
        boolean isNew, isDoomed;
    }

    private static final class Change {
        int number, kind, author, state, value;
        Line row, column;

        Line line() {
            return kind < 2 ? row : column;
        }
    }

    private static final class State {
        boolean tracked = true;
        List<List<Line>> lines = List.of(new ArrayList<>(), new ArrayList<>());
        Map<Line, Map<Line, Integer>> base = new HashMap<>();
        List<Change> changes = new ArrayList<>();
    }

    private State s = new State();
    private final List<State> history = new ArrayList<>();
    private final StringBuilder text = new StringBuilder();

    private static Line copyOf(Line line, Map<Line, Line> copies) {
        if (line == null) {
            return null;
        }
        return copies.computeIfAbsent(line, old -> {
            Line copy = new Line();
            copy.isNew = old.isNew;
            copy.isDoomed = old.isDoomed;
            return copy;
        });
    }

    private static State copyOf(State old) {
        Map<Line, Line> copies = new HashMap<>();
        State copy = new State();
        copy.tracked = old.tracked;
        for (int axis = 0; axis < 2; axis++) {
            for (Line line : old.lines.get(axis)) {
                copy.lines.get(axis).add(copyOf(line, copies));
            }
        }
        old.base.forEach((row, values) -> {
            Map<Line, Integer> to = new HashMap<>();
            values.forEach((column, value) -> to.put(copyOf(column, copies), value));
            copy.base.put(copyOf(row, copies), to);
        });
        for (Change change : old.changes) {
            Change c = new Change();
            c.number = change.number;
            c.kind = change.kind;
            c.author = change.author;
            c.state = change.state;
            c.value = change.value;
            c.row = copyOf(change.row, copies);
            c.column = copyOf(change.column, copies);
            copy.changes.add(c);
        }
        return copy;
    }

    private void record(State before) {
        history.add(before);
        if (history.size() > 4) {
            history.remove(0);
        }
    }

    private int acted(State before, int answer) {
        if (answer >= 0) {
            record(before);
        }
        return answer;
    }

    // ---- what the terms say

    private List<Change> pendingChanges() {
        List<Change> all = new ArrayList<>(s.changes);
        all.removeIf(change -> change.state != 0);
        return all;
    }

    private List<Change> stack(Line row, Line column) {
        List<Change> all = pendingChanges();
        all.removeIf(change -> change.kind != 4 || change.row != row || change.column != column);
        return all;
    }

    private int base(Line row, Line column) {
        return s.base.getOrDefault(row, Map.of()).getOrDefault(column, 0);
    }

    private int value(Line row, Line column) {
        List<Change> stack = stack(row, column);
        return stack.isEmpty() ? base(row, column) : stack.get(stack.size() - 1).value;
    }

    private int below(Change setting) {
        List<Change> stack = stack(setting.row, setting.column);
        int level = stack.indexOf(setting);
        return level == 0 ? base(setting.row, setting.column) : stack.get(level - 1).value;
    }

    private List<Change> restsDirectly(Change one) {
        List<Change> on = new ArrayList<>();
        for (Change other : pendingChanges()) {
            boolean insertion = other.kind == 0 || other.kind == 2;
            if (one.kind == 4 && insertion && (other.line() == one.row || other.line() == one.column)) {
                on.add(other);
            }
            if ((one.kind == 1 || one.kind == 3) && insertion && other.line() == one.line()) {
                on.add(other);
            }
        }
        if (one.kind == 4) {
            List<Change> stack = stack(one.row, one.column);
            int level = stack.indexOf(one);
            if (level > 0) {
                on.add(stack.get(level - 1));
            }
        }
        return on;
    }

    /** The changes on which it rests, by number. */
    private List<Change> supports(Change one) {
        List<Change> all = new ArrayList<>();
        if (one.state != 0) {
            return all;
        }
        List<Change> open = new ArrayList<>(List.of(one));
        while (!open.isEmpty()) {
            for (Change next : restsDirectly(open.remove(0))) {
                if (!all.contains(next)) {
                    all.add(next);
                    open.add(next);
                }
            }
        }
        all.sort(Comparator.comparingInt(change -> change.number));
        return all;
    }

    private List<Change> dependents(Change one) {
        List<Change> all = pendingChanges();
        all.removeIf(change -> !supports(change).contains(one));
        return all;
    }

    private void takeOut(Line line) {
        s.lines.get(0).remove(line);
        s.lines.get(1).remove(line);
    }

    private int acceptIt(Change change) {
        List<Change> all = supports(change);
        all.add(change);
        for (Change each : all) {
            each.state = 1;
            if (each.kind == 4) {
                s.base.computeIfAbsent(each.row, row -> new HashMap<>()).put(each.column, each.value);
            } else if (each.kind == 0 || each.kind == 2) {
                each.line().isNew = false;
            } else {
                takeOut(each.line());
                for (Change other : pendingChanges()) {
                    if (other.kind == 4 && (other.row == each.line() || other.column == each.line())) {
                        other.state = 3;
                    }
                }
            }
        }
        return all.size();
    }

    private int rejectIt(Change change) {
        List<Change> all = dependents(change);
        all.add(change);
        for (Change each : all) {
            each.state = 2;
            if (each.kind == 0 || each.kind == 2) {
                takeOut(each.line());
            } else if (each.kind != 4) {
                each.line().isDoomed = false;
            }
        }
        return all.size();
    }

    private Change make(int kind, int author, Line row, Line column, int value) {
        Change change = new Change();
        change.number = s.changes.size();
        change.kind = kind;
        change.author = author;
        change.row = row;
        change.column = column;
        change.value = value;
        s.changes.add(change);
        return change;
    }

    private Line at(int axis, int place) {
        if (axis < 0 || axis > 1 || place < 0 || place >= s.lines.get(axis).size()) {
            return null;
        }
        return s.lines.get(axis).get(place);
    }

    private Change pendingOf(Line line, boolean removal) {
        for (Change change : pendingChanges()) {
            if (change.kind < 4 && change.line() == line && change.kind % 2 == (removal ? 1 : 0)) {
                return change;
            }
        }
        return null;
    }

    private static boolean author(int author) {
        return author >= 0 && author <= 3;
    }

    // ---- making changes

    int track(boolean tracked) {
        State before = copyOf(s);
        if (s.tracked == tracked) {
            return NOT_POSSIBLE;
        }
        s.tracked = tracked;
        return acted(before, pendingChanges().size());
    }

    int insert(int author, int axis, int place) {
        State before = copyOf(s);
        return acted(before, insertIt(author, axis, place));
    }

    private int insertIt(int author, int axis, int place) {
        if (!author(author) || axis < 0 || axis > 1) {
            return UNKNOWN;
        }
        List<Line> lines = s.lines.get(axis);
        if (place < 0 || place > lines.size()) {
            return BAD_VALUE;
        }
        if (lines.size() == (axis == 0 ? 12 : 8) || (s.tracked && s.changes.size() == 60)) {
            return FULL;
        }
        Line line = new Line();
        lines.add(place, line);
        if (!s.tracked) {
            return UNTRACKED;
        }
        line.isNew = true;
        return make(2 * axis, author, axis == 0 ? line : null, axis == 1 ? line : null, 0).number;
    }

    int remove(int author, int axis, int place) {
        State before = copyOf(s);
        return acted(before, removeIt(author, axis, place));
    }

    private int removeIt(int author, int axis, int place) {
        Line line = at(axis, place);
        if (!author(author) || line == null) {
            return UNKNOWN;
        }
        if (!s.tracked) {
            for (Change change : pendingChanges()) {
                if (change.row == line || change.column == line) {
                    change.state = 3;
                }
            }
            takeOut(line);
            return UNTRACKED;
        }
        if (line.isDoomed) {
            return NOT_POSSIBLE;
        }
        if (line.isNew) {
            Change insertion = pendingOf(line, false);
            if (insertion.author == author) {
                for (Change change : dependents(insertion)) {
                    change.state = 3;
                }
                insertion.state = 3;
                takeOut(line);
                return insertion.number;
            }
        }
        if (s.changes.size() == 60) {
            return FULL;
        }
        line.isDoomed = true;
        return make(2 * axis + 1, author, axis == 0 ? line : null, axis == 1 ? line : null, 0).number;
    }

    int set(int author, int row, int column, int value) {
        State before = copyOf(s);
        return acted(before, setIt(author, row, column, value));
    }

    private int setIt(int author, int rowPlace, int columnPlace, int value) {
        Line row = at(0, rowPlace);
        Line column = at(1, columnPlace);
        if (!author(author) || row == null || column == null) {
            return UNKNOWN;
        }
        if (value < 0 || value > 9999) {
            return BAD_VALUE;
        }
        if (row.isDoomed || column.isDoomed || value(row, column) == value) {
            return NOT_POSSIBLE;
        }
        List<Change> stack = stack(row, column);
        if (!s.tracked) {
            stack.forEach(change -> change.state = 3);
            s.base.computeIfAbsent(row, r -> new HashMap<>()).put(column, value);
            return UNTRACKED;
        }
        if (!stack.isEmpty() && stack.get(stack.size() - 1).author == author) {
            Change top = stack.get(stack.size() - 1);
            top.value = value;
            if (below(top) == value) {
                top.state = 3;
            }
            return top.number;
        }
        if (s.changes.size() == 60) {
            return FULL;
        }
        return make(4, author, row, column, value).number;
    }

    // ---- accepting, rejecting

    private Change numbered(int number) {
        return number < 0 || number >= s.changes.size() ? null : s.changes.get(number);
    }

    int accept(int number) {
        State before = copyOf(s);
        Change change = numbered(number);
        if (change == null) {
            return UNKNOWN;
        }
        return change.state != 0 ? NOT_POSSIBLE : acted(before, acceptIt(change));
    }

    int reject(int number) {
        State before = copyOf(s);
        Change change = numbered(number);
        if (change == null) {
            return UNKNOWN;
        }
        return change.state != 0 ? NOT_POSSIBLE : acted(before, rejectIt(change));
    }

    int settle(int author, boolean accepted) {
        State before = copyOf(s);
        if (author < -1 || author > 3) {
            return UNKNOWN;
        }
        int settled = 0;
        while (true) {
            List<Change> own = pendingChanges();
            own.removeIf(change -> author != -1 && change.author != author);
            if (own.isEmpty()) {
                break;
            }
            settled += accepted ? acceptIt(own.get(0)) : rejectIt(own.get(0));
        }
        return settled == 0 ? NOT_POSSIBLE : acted(before, settled);
    }

    // ---- orders

    int type(char character) {
        if (text.length() == 60) {
            return FULL;
        }
        text.append(character);
        return text.length();
    }

    int clearText() {
        int had = text.length();
        text.setLength(0);
        return had;
    }

    static int faultOf(CharSequence text) {
        for (int end = 1; end <= text.length(); end++) {
            Matcher matcher = TEXT.matcher(text.subSequence(0, end));
            if (!matcher.matches() && !matcher.hitEnd()) {
                return end - 1;
            }
        }
        return TEXT.matcher(text).matches() ? NONE : text.length();
    }

    int run(int author) {
        if (!author(author)) {
            return UNKNOWN;
        }
        int fault = faultOf(text);
        if (fault != NONE) {
            return -100 - fault;
        }
        record(copyOf(s));
        int done = 0;
        for (String order : text.toString().split(" ")) {
            int answer;
            if (order.startsWith("+") || order.startsWith("-")) {
                int axis = order.charAt(1) == 'r' ? 0 : 1;
                int place = Integer.parseInt(order.substring(2));
                answer = order.startsWith("+") ? insertIt(author, axis, place) : removeIt(author, axis, place);
            } else {
                String[] parts = order.split("[.=]");
                answer = setIt(author, Integer.parseInt(parts[0]), Integer.parseInt(parts[1]),
                        Integer.parseInt(parts[2]));
            }
            if (answer < 0) {
                break;
            }
            done++;
        }
        return done;
    }

    int undo() {
        if (history.isEmpty()) {
            return NONE;
        }
        s = history.remove(history.size() - 1);
        return history.size();
    }

    // ---- what is told

    private List<Line> view(int view, int axis) {
        List<Line> lines = new ArrayList<>();
        if (view < 0 || view > 2 || axis < 0 || axis > 1) {
            return lines;
        }
        for (Line line : s.lines.get(axis)) {
            if (view == 0 || view == 1 && !line.isDoomed || view == 2 && !line.isNew) {
                lines.add(line);
            }
        }
        return lines;
    }

    int size(int view, int axis) {
        return view < 0 || view > 2 || axis < 0 || axis > 1 ? UNKNOWN : view(view, axis).size();
    }

    int cell(int view, int row, int column) {
        List<Line> rows = view(view, 0);
        List<Line> columns = view(view, 1);
        if (row < 0 || row >= rows.size() || column < 0 || column >= columns.size()) {
            return UNKNOWN;
        }
        return view == 2 ? base(rows.get(row), columns.get(column)) : value(rows.get(row), columns.get(column));
    }

    int line(int axis, int place, int what) {
        Line line = at(axis, place);
        if (line == null) {
            return UNKNOWN;
        }
        if (what < 0 || what > 4) {
            return BAD_VALUE;
        }
        if (what < 2) {
            boolean there = what == 0 ? line.isNew : line.isDoomed;
            return there ? pendingOf(line, what == 1).number : NONE;
        }
        if (what < 4) {
            int found = view(what - 1, axis).indexOf(line);
            return found < 0 ? NONE : found;
        }
        return (int) pendingChanges().stream()
                .filter(change -> change.kind == 4 && (change.row == line || change.column == line)).count();
    }

    int setting(int row, int column, int level) {
        if (at(0, row) == null || at(1, column) == null) {
            return UNKNOWN;
        }
        if (level < 0) {
            return BAD_VALUE;
        }
        List<Change> stack = stack(at(0, row), at(1, column));
        return level < stack.size() ? stack.get(level).number : NONE;
    }

    private int place(int axis, Line line) {
        int place = s.lines.get(axis).indexOf(line);
        return place < 0 ? NONE : place;
    }

    int change(int number, int what) {
        Change change = numbered(number);
        if (change == null) {
            return UNKNOWN;
        }
        switch (what) {
            case 0: return change.kind;
            case 1: return change.author;
            case 2: return change.state;
            case 3: return place(0, change.row);
            case 4: return place(1, change.column);
            case 5: return change.kind == 4 ? change.value : NONE;
            case 6: return change.kind == 4 && change.state == 0 ? below(change) : NONE;
            case 7: return supports(change).size();
            case 8: return dependents(change).size();
            default: return BAD_VALUE;
        }
    }

    int restsOn(int one, int other) {
        if (numbered(one) == null || numbered(other) == null) {
            return UNKNOWN;
        }
        if (one == other) {
            return BAD_VALUE;
        }
        return supports(numbered(one)).contains(numbered(other)) ? 1 : 0;
    }

    int pending(int place) {
        if (place < 0) {
            return BAD_VALUE;
        }
        List<Change> all = pendingChanges();
        Collections.sort(all, Comparator.<Change>comparingInt(change -> change.kind / 2)
                .thenComparingInt(change -> place(0, change.row))
                .thenComparingInt(change -> place(1, change.column))
                .thenComparingInt(change -> change.number));
        return place < all.size() ? all.get(place).number : NONE;
    }

    int author(int author, int state) {
        if (!author(author)) {
            return UNKNOWN;
        }
        if (state < 0 || state > 3) {
            return BAD_VALUE;
        }
        return (int) s.changes.stream().filter(c -> c.author == author && c.state == state).count();
    }

    int sum(int view) {
        if (view < 0 || view > 2) {
            return UNKNOWN;
        }
        int sum = 0;
        for (int row = 0; row < size(view, 0); row++) {
            for (int column = 0; column < size(view, 1); column++) {
                sum += cell(view, row, column);
            }
        }
        return sum;
    }

    private int lines(boolean doomed) {
        TreeSet<Integer> found = new TreeSet<>();
        for (int axis = 0; axis < 2; axis++) {
            for (int place = 0; place < s.lines.get(axis).size(); place++) {
                Line line = at(axis, place);
                if (doomed ? line.isDoomed : line.isNew) {
                    found.add(axis * 100 + place);
                }
            }
        }
        return found.size();
    }

    int count(int what) {
        switch (what) {
            case 0: return s.changes.size();
            case 1: case 2: case 3: case 4:
                return (int) s.changes.stream().filter(change -> change.state == what - 1).count();
            case 5: return s.tracked ? 1 : 0;
            case 6: return lines(false);
            case 7: return lines(true);
            case 8: return (int) pendingChanges().stream().filter(change -> change.kind == 4).count();
            case 9: return history.size();
            case 10: return text.length();
            default: return BAD_VALUE;
        }
    }
}
