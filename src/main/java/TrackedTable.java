/** A table with tracked changes; ../shared/DOC.md says what each call must do. */
public final class TrackedTable {
    public static final int UNKNOWN = -1;
    public static final int BAD_VALUE = -2;
    public static final int FULL = -3;
    public static final int NOT_POSSIBLE = -4;
    public static final int NONE = -5;
    public static final int UNTRACKED = 1000;

    private static final int AUTHORS = 4;
    private static final int ALL_AUTHORS = -1;
    private static final int MOST_ROWS = 12;
    private static final int MOST_COLUMNS = 8;
    private static final int MOST_CHANGES = 60;
    private static final int MOST_SIGNS = 60;
    private static final int MOST_STATES = 4;
    private static final int MOST_VALUE = 9999;
    private static final int PLACE_DIGITS = 2;
    private static final int VALUE_DIGITS = 4;
    private static final int FAULT_BASE = -100;

    private static final int ROWS = 0;
    private static final int COLUMNS = 1;

    private static final int FULL_VIEW = 0;
    private static final int CLEAN_VIEW = 1;
    private static final int OLD_VIEW = 2;

    // The kind of a change of a line is twice its axis, and one more for a removal.
    private static final int ROW_INSERTION = 0;
    private static final int ROW_REMOVAL = 1;
    private static final int COLUMN_INSERTION = 2;
    private static final int COLUMN_REMOVAL = 3;
    private static final int SETTING = 4;

    private static final int PENDING = 0;
    private static final int ACCEPTED = 1;
    private static final int REJECTED = 2;
    private static final int DISSOLVED = 3;

    // What is kept of each change.
    private static final int KIND = 0;
    private static final int AUTHOR = 1;
    private static final int STATE = 2;
    private static final int ROW = 3;
    private static final int COLUMN = 4;
    private static final int VALUE = 5;
    private static final int FACTS = 6;

    private final Table table = new Table();
    private final History history = new History();
    private final OrderText text = new OrderText();

    public TrackedTable() {
    }

    // ---- making changes

    public int track(boolean tracked) {
        if (table.tracked == tracked) {
            return NOT_POSSIBLE;
        }
        history.draft(table);
        table.tracked = tracked;
        return recorded(table.changes.inState(ALL_AUTHORS, PENDING));
    }

    public int insert(int author, int axis, int place) {
        history.draft(table);
        return recorded(table.insertLine(author, axis, place));
    }

    public int remove(int author, int axis, int place) {
        history.draft(table);
        return recorded(table.removeLine(author, axis, place));
    }

    public int set(int author, int row, int column, int value) {
        history.draft(table);
        return recorded(table.setCell(author, row, column, value));
    }

    // ---- accepting, rejecting

    public int accept(int change) {
        if (!table.changes.isMade(change)) {
            return UNKNOWN;
        }
        if (!table.changes.isPending(change)) {
            return NOT_POSSIBLE;
        }
        history.draft(table);
        return recorded(table.acceptWhole(change));
    }

    public int reject(int change) {
        if (!table.changes.isMade(change)) {
            return UNKNOWN;
        }
        if (!table.changes.isPending(change)) {
            return NOT_POSSIBLE;
        }
        history.draft(table);
        return recorded(table.rejectWhole(change));
    }

    public int settle(int author, boolean accepted) {
        if (author != ALL_AUTHORS && !isAuthor(author)) {
            return UNKNOWN;
        }
        if (table.changes.inState(author, PENDING) == 0) {
            return NOT_POSSIBLE;
        }
        history.draft(table);
        return recorded(table.settleAll(author, accepted));
    }

    // ---- orders

    public int type(char character) {
        return text.append(character);
    }

    public int clearText() {
        int had = text.length;
        text.length = 0;
        return had;
    }

    public int run(int author) {
        if (!isAuthor(author)) {
            return UNKNOWN;
        }
        int fault = text.fault();
        if (fault >= 0) {
            return FAULT_BASE - fault;
        }
        history.draft(table);
        return recorded(carryOut(author));
    }

    public int undo() {
        return history.restore(table);
    }

    // ---- what is told

    public int size(int view, int axis) {
        if (!isView(view) || !isAxis(axis)) {
            return UNKNOWN;
        }
        return table.shownLines(view, axis);
    }

    public int cell(int view, int row, int column) {
        int rowSlot = table.slotInView(view, ROWS, row);
        int columnSlot = table.slotInView(view, COLUMNS, column);
        if (rowSlot < 0 || columnSlot < 0) {
            return UNKNOWN;
        }
        return table.valueInView(view, rowSlot, columnSlot);
    }

    public int line(int axis, int place, int what) {
        int slot = table.slotAt(axis, place);
        if (slot < 0) {
            return UNKNOWN;
        }
        switch (what) {
            case 0:
                return table.changes.insertionOf(axis, slot);
            case 1:
                return table.changes.removalOf(axis, slot);
            case 2:
                return table.placeInView(CLEAN_VIEW, axis, slot);
            case 3:
                return table.placeInView(OLD_VIEW, axis, slot);
            case 4:
                return table.changes.settingsOfLine(axis, slot);
            default:
                return BAD_VALUE;
        }
    }

    public int setting(int row, int column, int level) {
        int rowSlot = table.slotAt(ROWS, row);
        int columnSlot = table.slotAt(COLUMNS, column);
        if (rowSlot < 0 || columnSlot < 0) {
            return UNKNOWN;
        }
        if (level < 0) {
            return BAD_VALUE;
        }
        return table.changes.settingAt(rowSlot, columnSlot, level);
    }

    public int change(int change, int what) {
        if (!table.changes.isMade(change)) {
            return UNKNOWN;
        }
        switch (what) {
            case 0:
                return table.changes.fact(change, KIND);
            case 1:
                return table.changes.fact(change, AUTHOR);
            case 2:
                return table.changes.fact(change, STATE);
            case 3:
                return table.rows.placeOf(table.changes.fact(change, ROW));
            case 4:
                return table.columns.placeOf(table.changes.fact(change, COLUMN));
            case 5:
                return table.changes.fact(change, VALUE);
            case 6:
                return table.valueBelow(change);
            case 7:
                return table.changes.supportsOf(change);
            case 8:
                return table.changes.dependentsOf(change);
            default:
                return BAD_VALUE;
        }
    }

    public int restsOn(int one, int other) {
        if (!table.changes.isMade(one) || !table.changes.isMade(other)) {
            return UNKNOWN;
        }
        if (one == other) {
            return BAD_VALUE;
        }
        return table.changes.rests(one, other) ? 1 : 0;
    }

    public int pending(int place) {
        if (place < 0) {
            return BAD_VALUE;
        }
        return table.pendingInReadingOrder(place);
    }

    public int author(int author, int state) {
        if (!isAuthor(author)) {
            return UNKNOWN;
        }
        if (state < PENDING || state > DISSOLVED) {
            return BAD_VALUE;
        }
        return table.changes.inState(author, state);
    }

    public int sum(int view) {
        if (!isView(view)) {
            return UNKNOWN;
        }
        return table.total(view);
    }

    public int count(int what) {
        Changes changes = table.changes;
        switch (what) {
            case 0:
                return changes.made;
            case 1:
                return changes.inState(ALL_AUTHORS, PENDING);
            case 2:
                return changes.inState(ALL_AUTHORS, ACCEPTED);
            case 3:
                return changes.inState(ALL_AUTHORS, REJECTED);
            case 4:
                return changes.inState(ALL_AUTHORS, DISSOLVED);
            case 5:
                return table.tracked ? 1 : 0;
            case 6:
                return changes.pendingOf(ROW_INSERTION) + changes.pendingOf(COLUMN_INSERTION);
            case 7:
                return changes.pendingOf(ROW_REMOVAL) + changes.pendingOf(COLUMN_REMOVAL);
            case 8:
                return changes.pendingOf(SETTING);
            case 9:
                return history.kept;
            case 10:
                return text.length;
            default:
                return BAD_VALUE;
        }
    }

    // ---- what the calls share

    /** An act that answers an error leaves its draft unkept, so that the history stays as it was. */
    private int recorded(int answer) {
        if (answer >= 0) {
            history.keep();
        }
        return answer;
    }

    private int carryOut(int author) {
        text.rewind();
        for (int done = 0; done < MOST_SIGNS; done++) {
            if (!text.nextOrder() || obey(author) < 0) {
                return done;
            }
        }
        return MOST_SIGNS;
    }

    private int obey(int author) {
        if (text.sign == '+') {
            return table.insertLine(author, text.axis, text.place);
        }
        if (text.sign == '-') {
            return table.removeLine(author, text.axis, text.place);
        }
        return table.setCell(author, text.place, text.column, text.value);
    }

    private static boolean isAuthor(int author) {
        return author >= 0 && author < AUTHORS;
    }

    private static boolean isAxis(int axis) {
        return axis == ROWS || axis == COLUMNS;
    }

    private static boolean isView(int view) {
        return view >= FULL_VIEW && view <= OLD_VIEW;
    }

    private static void copy(int[] from, int[] to) {
        System.arraycopy(from, 0, to, 0, Math.min(from.length, to.length));
    }

    /**
     * The lines of one axis. Each line has a slot, which stays its name while other lines come and
     * go before it; the slots from 'used' on in the order are free.
     */
    private static final class Lines {
        final int[] order;
        int used;

        Lines(int most) {
            order = new int[Math.max(most, 0)];
            for (int i = 0; i < order.length; i++) {
                order[i] = i;
            }
        }

        boolean isFull() {
            return used >= order.length;
        }

        int slotAt(int place) {
            if (place < 0 || place >= used || place >= order.length) {
                return NONE;
            }
            return order[place];
        }

        int placeOf(int slot) {
            for (int i = 0; i < used && i < order.length; i++) {
                if (order[i] == slot) {
                    return i;
                }
            }
            return NONE;
        }

        int open(int place) {
            if (place < 0 || place > used || used >= order.length) {
                return NONE;
            }
            int slot = order[used];
            for (int i = used; i > place; i--) {
                order[i] = order[i - 1];
            }
            order[place] = slot;
            used++;
            return slot;
        }

        void close(int slot) {
            int place = placeOf(slot);
            int last = used - 1;
            if (place < 0 || last < place || last >= order.length) {
                return;
            }
            for (int i = place; i < last; i++) {
                order[i] = order[i + 1];
            }
            order[last] = slot;
            used = last;
        }

        void copyFrom(Lines other) {
            copy(other.order, order);
            used = other.used;
        }
    }

    /** The changes that were made, by their numbers; their lines are told by slots. */
    private static final class Changes {
        final int[] facts = new int[MOST_CHANGES * FACTS];
        int made;

        boolean isFull() {
            return made >= MOST_CHANGES;
        }

        boolean isMade(int number) {
            return number >= 0 && number < made && number < MOST_CHANGES;
        }

        boolean isPending(int number) {
            return fact(number, STATE) == PENDING;
        }

        /** Looks at the number itself, as isMade would make the calls deeper than the language allows. */
        int fact(int number, int what) {
            if (number < 0 || number >= made || number >= MOST_CHANGES || what < 0 || what >= FACTS) {
                return NONE;
            }
            return facts[number * FACTS + what];
        }

        void put(int number, int what, int value) {
            if (isMade(number) && what >= 0 && what < FACTS) {
                facts[number * FACTS + what] = value;
            }
        }

        int add(int kind, int author, int row, int column, int value) {
            if (isFull()) {
                return FULL;
            }
            int number = made;
            made++;
            put(number, KIND, kind);
            put(number, AUTHOR, author);
            put(number, STATE, PENDING);
            put(number, ROW, row);
            put(number, COLUMN, column);
            put(number, VALUE, value);
            return number;
        }

        int addOfLine(int kind, int author, int slot) {
            boolean ofRow = lineFact(kind) == ROW;
            return add(kind, author, ofRow ? slot : NONE, ofRow ? NONE : slot, NONE);
        }

        private static int lineFact(int kind) {
            return kind == ROW_INSERTION || kind == ROW_REMOVAL ? ROW : COLUMN;
        }

        int insertionOf(int axis, int slot) {
            return pendingOfLine(axis == ROWS ? ROW_INSERTION : COLUMN_INSERTION, slot);
        }

        int removalOf(int axis, int slot) {
            return pendingOfLine(axis == ROWS ? ROW_REMOVAL : COLUMN_REMOVAL, slot);
        }

        private int pendingOfLine(int kind, int slot) {
            int what = lineFact(kind);
            for (int n = 0; n < made; n++) {
                if (fact(n, STATE) == PENDING && fact(n, KIND) == kind && fact(n, what) == slot) {
                    return n;
                }
            }
            return NONE;
        }

        boolean isSettingOf(int number, int row, int column) {
            if (number < 0 || number >= made || number >= MOST_CHANGES) {
                return false;
            }
            int start = number * FACTS;
            return facts[start + STATE] == PENDING && facts[start + KIND] == SETTING
                    && facts[start + ROW] == row && facts[start + COLUMN] == column;
        }

        int settingAt(int row, int column, int level) {
            int below = 0;
            for (int n = 0; n < made; n++) {
                if (isSettingOf(n, row, column)) {
                    if (below == level) {
                        return n;
                    }
                    below++;
                }
            }
            return NONE;
        }

        int settingsOfCell(int row, int column) {
            int found = 0;
            for (int n = 0; n < made; n++) {
                if (isSettingOf(n, row, column)) {
                    found++;
                }
            }
            return found;
        }

        int settingsOfLine(int axis, int slot) {
            int what = axis == ROWS ? ROW : COLUMN;
            int found = 0;
            for (int n = 0; n < made; n++) {
                if (fact(n, KIND) == SETTING && isPending(n) && fact(n, what) == slot) {
                    found++;
                }
            }
            return found;
        }

        /** Settings of a cell lie one over another by their numbers, as only the latest one ever changes. */
        int settingUnder(int number, int row, int column) {
            for (int n = Math.min(number, made) - 1; n >= 0; n--) {
                if (isSettingOf(n, row, column)) {
                    return n;
                }
            }
            return NONE;
        }

        /**
         * Whether one rests on the other, directly or not: what a lower setting of a cell rests on,
         * the upper one rests on directly, so no chain needs to be followed.
         */
        boolean rests(int one, int other) {
            if (!isPending(one) || !isPending(other)) {
                return false;
            }
            boolean sameRow = fact(one, ROW) == fact(other, ROW);
            boolean sameColumn = fact(one, COLUMN) == fact(other, COLUMN);
            int base = fact(other, KIND);
            switch (fact(one, KIND)) {
                case ROW_REMOVAL:
                    return base == ROW_INSERTION && sameRow;
                case COLUMN_REMOVAL:
                    return base == COLUMN_INSERTION && sameColumn;
                case SETTING:
                    return base == ROW_INSERTION && sameRow
                            || base == COLUMN_INSERTION && sameColumn
                            || base == SETTING && sameRow && sameColumn && other < one;
                default:
                    return false;
            }
        }

        int supportsOf(int number) {
            int found = 0;
            for (int n = 0; n < made; n++) {
                if (rests(number, n)) {
                    found++;
                }
            }
            return found;
        }

        int dependentsOf(int number) {
            int found = 0;
            for (int n = 0; n < made; n++) {
                if (rests(n, number)) {
                    found++;
                }
            }
            return found;
        }

        int inState(int author, int state) {
            int found = 0;
            for (int n = 0; n < made; n++) {
                if (fact(n, STATE) == state && (author == ALL_AUTHORS || fact(n, AUTHOR) == author)) {
                    found++;
                }
            }
            return found;
        }

        int pendingOf(int kind) {
            int found = 0;
            for (int n = 0; n < made; n++) {
                if (fact(n, KIND) == kind && isPending(n)) {
                    found++;
                }
            }
            return found;
        }

        void dissolveCell(int row, int column) {
            for (int n = 0; n < made; n++) {
                if (isSettingOf(n, row, column)) {
                    put(n, STATE, DISSOLVED);
                }
            }
        }

        /** The slot will name another line later, so no change may keep it. */
        void leaveLine(int axis, int slot) {
            int what = axis == ROWS ? ROW : COLUMN;
            for (int n = 0; n < made; n++) {
                if (fact(n, what) == slot) {
                    if (isPending(n)) {
                        put(n, STATE, DISSOLVED);
                    }
                    put(n, what, NONE);
                }
            }
        }

        void copyFrom(Changes other) {
            copy(other.facts, facts);
            made = other.made;
        }
    }

    /** All that a state of the history holds. */
    private static final class Table {
        final Lines rows = new Lines(MOST_ROWS);
        final Lines columns = new Lines(MOST_COLUMNS);
        final int[] bases = new int[MOST_ROWS * MOST_COLUMNS];
        final Changes changes = new Changes();
        boolean tracked = true;

        void copyFrom(Table other) {
            rows.copyFrom(other.rows);
            columns.copyFrom(other.columns);
            copy(other.bases, bases);
            changes.copyFrom(other.changes);
            tracked = other.tracked;
        }

        private Lines linesOf(int axis) {
            return axis == ROWS ? rows : columns;
        }

        int slotAt(int axis, int place) {
            return isAxis(axis) ? linesOf(axis).slotAt(place) : NONE;
        }

        // ---- making changes

        int insertLine(int author, int axis, int place) {
            if (!isAuthor(author) || !isAxis(axis)) {
                return UNKNOWN;
            }
            Lines lines = linesOf(axis);
            if (place < 0 || place > lines.used) {
                return BAD_VALUE;
            }
            if (lines.isFull() || tracked && changes.isFull()) {
                return FULL;
            }
            int slot = lines.open(place);
            clearCells(axis, slot);
            if (!tracked) {
                return UNTRACKED;
            }
            return changes.addOfLine(axis == ROWS ? ROW_INSERTION : COLUMN_INSERTION, author, slot);
        }

        int removeLine(int author, int axis, int place) {
            int slot = slotAt(axis, place);
            if (!isAuthor(author) || slot < 0) {
                return UNKNOWN;
            }
            if (!tracked) {
                dropLine(axis, slot);
                return UNTRACKED;
            }
            if (changes.removalOf(axis, slot) >= 0) {
                return NOT_POSSIBLE;
            }
            int insertion = changes.insertionOf(axis, slot);
            if (insertion >= 0 && changes.fact(insertion, AUTHOR) == author) {
                dropLine(axis, slot);
                return insertion;
            }
            return changes.addOfLine(axis == ROWS ? ROW_REMOVAL : COLUMN_REMOVAL, author, slot);
        }

        int setCell(int author, int rowPlace, int columnPlace, int value) {
            int row = rows.slotAt(rowPlace);
            int column = columns.slotAt(columnPlace);
            if (!isAuthor(author) || row < 0 || column < 0) {
                return UNKNOWN;
            }
            if (value < 0 || value > MOST_VALUE) {
                return BAD_VALUE;
            }
            if (changes.removalOf(ROWS, row) >= 0 || changes.removalOf(COLUMNS, column) >= 0
                    || valueUnder(MOST_CHANGES, row, column) == value) {
                return NOT_POSSIBLE;
            }
            if (!tracked) {
                changes.dissolveCell(row, column);
                putBase(row, column, value);
                return UNTRACKED;
            }
            int latest = changes.settingUnder(MOST_CHANGES, row, column);
            if (latest >= 0 && changes.fact(latest, AUTHOR) == author) {
                return setAgain(latest, valueUnder(latest, row, column), value);
            }
            return changes.add(SETTING, author, row, column, value);
        }

        private int setAgain(int setting, int below, int value) {
            if (below == value) {
                changes.put(setting, STATE, DISSOLVED);
            }
            changes.put(setting, VALUE, value);
            return setting;
        }

        private void dropLine(int axis, int slot) {
            changes.leaveLine(axis, slot);
            linesOf(axis).close(slot);
        }

        // ---- accepting, rejecting

        int acceptWhole(int number) {
            int accepted = 0;
            for (int n = 0; n < changes.made; n++) {
                if (changes.rests(number, n)) {
                    acceptAlone(n);
                    accepted++;
                }
            }
            acceptAlone(number);
            return accepted + 1;
        }

        private void acceptAlone(int number) {
            changes.put(number, STATE, ACCEPTED);
            int row = changes.fact(number, ROW);
            int column = changes.fact(number, COLUMN);
            switch (changes.fact(number, KIND)) {
                case ROW_REMOVAL:
                    dropLine(ROWS, row);
                    break;
                case COLUMN_REMOVAL:
                    dropLine(COLUMNS, column);
                    break;
                case SETTING:
                    putBase(row, column, changes.fact(number, VALUE));
                    break;
                default:
                    break;
            }
        }

        int rejectWhole(int number) {
            int rejected = 0;
            for (int n = 0; n < changes.made; n++) {
                if (changes.rests(n, number)) {
                    changes.put(n, STATE, REJECTED);
                    rejected++;
                }
            }
            changes.put(number, STATE, REJECTED);
            int kind = changes.fact(number, KIND);
            if (kind == ROW_INSERTION) {
                dropLine(ROWS, changes.fact(number, ROW));
            } else if (kind == COLUMN_INSERTION) {
                dropLine(COLUMNS, changes.fact(number, COLUMN));
            }
            return rejected + 1;
        }

        /** No change becomes pending here, so one pass upwards always meets the lowest pending one. */
        int settleAll(int author, boolean accepted) {
            int settled = 0;
            for (int n = 0; n < changes.made; n++) {
                boolean chosen = author == ALL_AUTHORS || changes.fact(n, AUTHOR) == author;
                if (chosen && changes.isPending(n)) {
                    settled += accepted ? acceptWhole(n) : rejectWhole(n);
                }
            }
            return settled;
        }

        // ---- cells

        private int base(int row, int column) {
            if (row < 0 || row >= MOST_ROWS || column < 0 || column >= MOST_COLUMNS) {
                return 0;
            }
            return bases[row * MOST_COLUMNS + column];
        }

        private void putBase(int row, int column, int value) {
            if (row >= 0 && row < MOST_ROWS && column >= 0 && column < MOST_COLUMNS) {
                bases[row * MOST_COLUMNS + column] = value;
            }
        }

        /** A slot that was used before still holds the values of its last line. */
        private void clearCells(int axis, int slot) {
            if (axis == ROWS) {
                for (int column = 0; column < MOST_COLUMNS; column++) {
                    putBase(slot, column, 0);
                }
            } else {
                for (int row = 0; row < MOST_ROWS; row++) {
                    putBase(row, slot, 0);
                }
            }
        }

        private int valueUnder(int number, int row, int column) {
            int setting = changes.settingUnder(number, row, column);
            return setting < 0 ? base(row, column) : changes.fact(setting, VALUE);
        }

        int valueBelow(int number) {
            if (changes.fact(number, KIND) != SETTING || !changes.isPending(number)) {
                return NONE;
            }
            return valueUnder(number, changes.fact(number, ROW), changes.fact(number, COLUMN));
        }

        // ---- views

        private boolean isShown(int view, int axis, int slot) {
            switch (view) {
                case FULL_VIEW:
                    return true;
                case CLEAN_VIEW:
                    return changes.removalOf(axis, slot) < 0;
                case OLD_VIEW:
                    return changes.insertionOf(axis, slot) < 0;
                default:
                    return false;
            }
        }

        int shownLines(int view, int axis) {
            Lines lines = linesOf(axis);
            int shown = 0;
            for (int place = 0; place < lines.used; place++) {
                if (isShown(view, axis, lines.slotAt(place))) {
                    shown++;
                }
            }
            return shown;
        }

        int slotInView(int view, int axis, int place) {
            Lines lines = linesOf(axis);
            int before = 0;
            for (int i = 0; i < lines.used; i++) {
                int slot = lines.slotAt(i);
                if (isShown(view, axis, slot)) {
                    if (before == place) {
                        return slot;
                    }
                    before++;
                }
            }
            return NONE;
        }

        int placeInView(int view, int axis, int slot) {
            Lines lines = linesOf(axis);
            int before = 0;
            for (int i = 0; i < lines.used; i++) {
                int here = lines.slotAt(i);
                boolean shown = isShown(view, axis, here);
                if (here == slot) {
                    return shown ? before : NONE;
                }
                if (shown) {
                    before++;
                }
            }
            return NONE;
        }

        int valueInView(int view, int row, int column) {
            return view == OLD_VIEW ? base(row, column) : valueUnder(MOST_CHANGES, row, column);
        }

        int total(int view) {
            int sum = 0;
            for (int i = 0; i < rows.used; i++) {
                int row = rows.slotAt(i);
                if (isShown(view, ROWS, row)) {
                    sum += totalOfRow(view, row);
                }
            }
            return sum;
        }

        private int totalOfRow(int view, int row) {
            int sum = 0;
            for (int i = 0; i < columns.used; i++) {
                int column = columns.slotAt(i);
                if (isShown(view, COLUMNS, column)) {
                    sum += valueInView(view, row, column);
                }
            }
            return sum;
        }

        // ---- the reading order

        int pendingInReadingOrder(int place) {
            int ofRows = lineChanges(ROWS);
            int ofColumns = lineChanges(COLUMNS);
            if (place < ofRows) {
                return lineChangeAt(ROWS, place);
            }
            if (place < ofRows + ofColumns) {
                return lineChangeAt(COLUMNS, place - ofRows);
            }
            return settingInReadingOrder(place - ofRows - ofColumns);
        }

        private int lineChanges(int axis) {
            if (axis == ROWS) {
                return changes.pendingOf(ROW_INSERTION) + changes.pendingOf(ROW_REMOVAL);
            }
            return changes.pendingOf(COLUMN_INSERTION) + changes.pendingOf(COLUMN_REMOVAL);
        }

        /** The insertion of a line always has a lower number than its removal. */
        private int lineChangeAt(int axis, int place) {
            Lines lines = linesOf(axis);
            int left = place;
            for (int i = 0; i < lines.used; i++) {
                int slot = lines.slotAt(i);
                int insertion = changes.insertionOf(axis, slot);
                if (insertion >= 0) {
                    if (left == 0) {
                        return insertion;
                    }
                    left--;
                }
                int removal = changes.removalOf(axis, slot);
                if (removal >= 0) {
                    if (left == 0) {
                        return removal;
                    }
                    left--;
                }
            }
            return NONE;
        }

        private int settingInReadingOrder(int place) {
            int left = place;
            for (int i = 0; i < rows.used; i++) {
                int row = rows.slotAt(i);
                for (int j = 0; j < columns.used; j++) {
                    int column = columns.slotAt(j);
                    int here = changes.settingsOfCell(row, column);
                    if (left < here) {
                        return changes.settingAt(row, column, left);
                    }
                    left -= here;
                }
            }
            return NONE;
        }
    }

    /** A ring of states, with one place more for the draft of the next one. */
    private static final class History {
        private static final int PLACES = MOST_STATES + 1;

        final Table[] ring = new Table[PLACES];
        int oldest;
        int kept;

        History() {
            for (int i = 0; i < PLACES; i++) {
                ring[i] = new Table();
            }
        }

        private Table after(int states) {
            return ring[Math.floorMod(oldest + states, PLACES)];
        }

        void draft(Table table) {
            Table place = after(kept);
            if (place != null) {
                place.copyFrom(table);
            }
        }

        void keep() {
            if (kept < MOST_STATES) {
                kept++;
            } else {
                oldest = Math.floorMod(oldest + 1, PLACES);
            }
        }

        int restore(Table table) {
            if (kept <= 0) {
                return NONE;
            }
            Table latest = after(kept - 1);
            if (latest != null) {
                table.copyFrom(latest);
            }
            kept--;
            return kept;
        }
    }

    /** The text of orders, and the order that was read last. */
    private static final class OrderText {
        final char[] signs = new char[MOST_SIGNS];
        int length;
        int at;
        char sign;
        int axis;
        int place;
        int column;
        int value;

        int append(char character) {
            if (length < 0 || length >= MOST_SIGNS) {
                return FULL;
            }
            signs[length] = character;
            length++;
            return length;
        }

        /** The index of the first sign that is not allowed, or NONE. */
        int fault() {
            rewind();
            for (int orders = 0; orders < MOST_SIGNS; orders++) {
                if (!nextOrder()) {
                    return at;
                }
                if (at >= length) {
                    return NONE;
                }
            }
            return at;
        }

        void rewind() {
            at = 0;
        }

        /** Reads one order; if there is none, it stops at the sign that is not allowed. */
        boolean nextOrder() {
            if (at > 0 && !pass(' ')) {
                return false;
            }
            sign = here();
            if (pass('+') || pass('-')) {
                return readAxis() && readPlace();
            }
            return readPlace() && pass('.') && readColumn() && pass('=') && readValue();
        }

        private boolean readAxis() {
            axis = here() == 'r' ? ROWS : COLUMNS;
            return pass('r') || pass('c');
        }

        private boolean readPlace() {
            place = readNumber(PLACE_DIGITS);
            return place >= 0;
        }

        private boolean readColumn() {
            column = readNumber(PLACE_DIGITS);
            return column >= 0;
        }

        private boolean readValue() {
            value = readNumber(VALUE_DIGITS);
            return value >= 0;
        }

        /** A digit too many is left to whoever reads next, as it is allowed nowhere after a number. */
        private int readNumber(int mostDigits) {
            if (!isDigit(here())) {
                return NONE;
            }
            if (pass('0')) {
                return 0;
            }
            int number = 0;
            for (int digits = 0; digits < mostDigits && isDigit(here()); digits++) {
                number = number * 10 + (here() - '0');
                at++;
            }
            return number;
        }

        private boolean pass(char wanted) {
            if (here() != wanted) {
                return false;
            }
            at++;
            return true;
        }

        /** The sign 0 stands for the end, as it is allowed nowhere in a text. */
        private char here() {
            return at >= 0 && at < length && at < MOST_SIGNS ? signs[at] : (char) 0;
        }

        private static boolean isDigit(char character) {
            return character >= '0' && character <= '9';
        }
    }
}
