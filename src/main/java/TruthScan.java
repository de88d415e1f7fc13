import java.util.Arrays;

/**
 * Conditions of three truths over columns with missing values: for each row true, false or unknown;
 * and whether any row can make them true at all, as told by leasts, greatests, missing ones and
 * dictionaries.
 */
public final class TruthScan {
    public static final int NONE = -1;

    private static final int BOOL = 0;
    private static final int WHOLE = 1;
    private static final int TEXT = 2;

    private static final int IS_NULL = 0;
    private static final int NOT_NULL = 1;
    private static final int IN = 2;
    private static final int WITH_LITERAL = 3;
    private static final int WITH_COLUMN = 4;
    private static final int NOT = 5;
    private static final int AND = 6;
    private static final int OR = 7;

    private static final int EQUAL = 0;
    private static final int UNEQUAL = 1;
    private static final int BELOW = 2;
    private static final int AT_MOST = 3;
    private static final int ABOVE = 4;
    private static final int AT_LEAST = 5;

    // Truths are bits of a set: a row's truth is a set of one, so that NOT, AND and OR
    // are written once for rows and for what a condition can be.
    private static final int FALSE = 1;
    private static final int TRUE = 2;
    private static final int UNKNOWN = 4;

    private static final int MOST_COLUMNS = 16;
    private static final int MOST_ROWS = 1000;
    private static final int MOST_TEXT_BYTES = 8000;
    private static final int LONGEST_TEXT = 255;
    private static final int LONGEST_TAPE = 1000;
    private static final int FED_BYTES = 20;
    private static final int MOST_LITERALS = 64;
    private static final int MOST_STEPS = 64;
    private static final int MOST_KNOWN_ROWS = 1000000;
    private static final int MOST_DICTIONARY = 100;

    private static final int ANY_ROW = -1;
    private static final byte[] NO_TEXT = {};

    private final Column[] columns = new Column[MOST_COLUMNS];
    private int columnCount = 0;
    private final byte[] tape = new byte[LONGEST_TAPE];
    private int tapeLength = 0;
    private final Value[] literals = new Value[MOST_LITERALS];
    private int literalCount = 0;
    private final Step[] steps = new Step[MOST_STEPS];
    private int stepCount = 0;
    private final int[] waiting = new int[MOST_STEPS];
    private final int[] rowTruths = new int[MOST_ROWS];
    private int scannedRows = 0;
    private final int[] trueRows = new int[MOST_ROWS];
    private int trueCount = 0;

    public TruthScan() {
    }

    public boolean feed(int a, int b, int c, int d, int e) {
        if (tapeLength > LONGEST_TAPE - FED_BYTES) {
            return false;
        }
        putOnTape(a);
        putOnTape(b);
        putOnTape(c);
        putOnTape(d);
        putOnTape(e);
        return true;
    }

    public int column(int type) {
        if (columnCount >= MOST_COLUMNS || type < BOOL || type > TEXT) {
            return NONE;
        }
        columns[columnCount] = new Column(type);
        columnCount++;
        return columnCount - 1;
    }

    public boolean add(int column, long value, int n) {
        Column target = columnAt(column);
        if (target == null || !isNumberOf(target.type, value) || !target.hasRoomFor(n)) {
            return false;
        }
        target.append(new Value(target.type, value, NO_TEXT), n);
        return true;
    }

    public boolean addText(int column, int n) {
        if (!isOnTape(n)) {
            return false;
        }
        // The text is cut off the tape even if the column then refuses it.
        tapeLength = 0;
        Column target = columnAt(column);
        if (target == null || target.type != TEXT || n > LONGEST_TEXT
                || !target.hasRoomFor(1) || !target.hasRoomForBytes(n)) {
            return false;
        }
        target.append(new Value(TEXT, 0, Arrays.copyOf(tape, n)), 1);
        return true;
    }

    public boolean miss(int column, int n) {
        Column target = columnAt(column);
        if (target == null || !target.hasRoomFor(n)) {
            return false;
        }
        target.append(null, n);
        return true;
    }

    public boolean clear(int column) {
        Column target = columnAt(column);
        if (target == null) {
            return false;
        }
        target.removeRows();
        return true;
    }

    public int literal(int type, long value) {
        if (literalCount >= MOST_LITERALS || !isNumberOf(type, value)) {
            return NONE;
        }
        return keepLiteral(new Value(type, value, NO_TEXT));
    }

    public int literalText(int n) {
        if (!isOnTape(n)) {
            return NONE;
        }
        tapeLength = 0;
        if (literalCount >= MOST_LITERALS || n > LONGEST_TEXT) {
            return NONE;
        }
        return keepLiteral(new Value(TEXT, 0, Arrays.copyOf(tape, n)));
    }

    public int step(int kind, int column, int operator, int other, int many) {
        if (stepCount >= MOST_STEPS || kind < IS_NULL || kind > OR) {
            return NONE;
        }
        Column first = kind < NOT ? columnAt(column) : null;
        Column second = kind == WITH_COLUMN ? columnAt(other) : null;
        int taken = kind == IN ? many : kind == WITH_LITERAL ? 1 : 0;
        if (kind < NOT && !fits(kind, first, operator, second, other, taken)) {
            return NONE;
        }
        steps[stepCount] = new Step(kind, first, operator, second, literals, other, taken);
        stepCount++;
        return stepCount - 1;
    }

    public void forget() {
        stepCount = 0;
        literalCount = 0;
    }

    public int scan(int n) {
        if (n < 0 || n > MOST_ROWS || !isCondition() || !stepsHaveRows(n)) {
            return NONE;
        }
        scannedRows = n;
        trueCount = 0;
        for (int row = 0; row < n; row++) {
            rowTruths[row] = outcome(row);
            if (rowTruths[row] == TRUE) {
                trueRows[trueCount] = row;
                trueCount++;
            }
        }
        return trueCount;
    }

    public int truth(int row) {
        if (row < 0 || row >= scannedRows) {
            return NONE;
        }
        // The bits 1, 2 and 4 are the truths 0, 1 and 2.
        return rowTruths[row] >> 1;
    }

    public int chosen(int k) {
        return k < 0 || k >= trueCount ? NONE : trueRows[k];
    }

    public boolean known(int column, int rows, int missing) {
        Column target = columnAt(column);
        if (target == null || missing < 0 || missing > rows || rows > MOST_KNOWN_ROWS) {
            return false;
        }
        return target.learn(rows, missing);
    }

    public boolean dictionary(int column) {
        Column target = columnAt(column);
        return target != null && target.learnDictionary();
    }

    public boolean unknown(int column) {
        Column target = columnAt(column);
        if (target == null) {
            return false;
        }
        target.isKnown = false;
        return true;
    }

    public int can() {
        return isCondition() ? outcome(ANY_ROW) : NONE;
    }

    private void putOnTape(int four) {
        for (int shift = 24; shift >= 0 && tapeLength < LONGEST_TAPE; shift -= 8) {
            tape[tapeLength] = (byte) (four >>> shift);
            tapeLength++;
        }
    }

    private boolean isOnTape(int n) {
        return n >= 0 && n <= tapeLength;
    }

    private Column columnAt(int number) {
        return number < 0 || number >= columnCount ? null : columns[number];
    }

    private int keepLiteral(Value value) {
        literals[literalCount] = value;
        literalCount++;
        return literalCount - 1;
    }

    private static boolean isNumberOf(int type, long value) {
        return type == WHOLE || type == BOOL && (value == 0 || value == 1);
    }

    /** Whether a step of a kind that looks at a column has all that it needs, of one type. */
    private boolean fits(int kind, Column first, int operator, Column second, int firstLiteral, int many) {
        if (first == null) {
            return false;
        }
        switch (kind) {
            case IN:
                return areLiterals(first.type, firstLiteral, many);
            case WITH_LITERAL:
                return isOperator(operator) && areLiterals(first.type, firstLiteral, many);
            case WITH_COLUMN:
                return isOperator(operator) && second != null && second.type == first.type;
            default:
                return true;
        }
    }

    private static boolean isOperator(int operator) {
        return operator >= EQUAL && operator <= AT_LEAST;
    }

    private boolean areLiterals(int type, int first, int many) {
        if (first < 0 || first >= literalCount || many < 1 || many > literalCount - first) {
            return false;
        }
        for (int i = 0; i < many; i++) {
            if (literals[first + i].type != type) {
                return false;
            }
        }
        return true;
    }

    private boolean isCondition() {
        int waits = 0;
        for (int i = 0; i < stepCount; i++) {
            int takes = steps[i].takes();
            if (takes > waits) {
                return false;
            }
            waits += 1 - takes;
        }
        return stepCount == 0 || waits == 1;
    }

    private boolean stepsHaveRows(int n) {
        for (int i = 0; i < stepCount; i++) {
            Step step = steps[i];
            if (step.column != null && step.column.rowCount < n) {
                return false;
            }
            if (step.other != null && step.other.rowCount < n) {
                return false;
            }
        }
        return true;
    }

    /** The truths of the condition at a row, or, at ANY_ROW, those that it can have. */
    private int outcome(int row) {
        if (stepCount == 0) {
            return TRUE;
        }
        int waits = 0;
        for (int i = 0; i < stepCount; i++) {
            Step step = steps[i];
            int takes = step.takes();
            if (takes > waits) {
                return NONE;
            }
            waits -= takes;
            if (takes == 0) {
                waiting[waits] = row == ANY_ROW ? step.canBe() : step.atRow(row);
            } else if (takes == 1) {
                waiting[waits] = not(waiting[waits]);
            } else if (step.kind == AND) {
                waiting[waits] = and(waiting[waits], waiting[waits + 1]);
            } else {
                waiting[waits] = or(waiting[waits], waiting[waits + 1]);
            }
            waits++;
        }
        return waiting[0];
    }

    private static int truthSet(boolean canBeFalse, boolean canBeTrue, boolean canBeUnknown) {
        return (canBeFalse ? FALSE : 0) | (canBeTrue ? TRUE : 0) | (canBeUnknown ? UNKNOWN : 0);
    }

    private static boolean has(int set, int truths) {
        return (set & truths) != 0;
    }

    private static int not(int a) {
        return truthSet(has(a, TRUE), has(a, FALSE), has(a, UNKNOWN));
    }

    private static int and(int a, int b) {
        boolean canBeUnknown = has(a, UNKNOWN) && has(b, UNKNOWN | TRUE)
                || has(b, UNKNOWN) && has(a, UNKNOWN | TRUE);
        return truthSet(has(a | b, FALSE), has(a & b, TRUE), canBeUnknown);
    }

    private static int or(int a, int b) {
        boolean canBeUnknown = has(a, UNKNOWN) && has(b, UNKNOWN | FALSE)
                || has(b, UNKNOWN) && has(a, UNKNOWN | FALSE);
        return truthSet(has(a & b, FALSE), has(a | b, TRUE), canBeUnknown);
    }

    private static boolean isAmong(Value value, Value[] values, int first, int many) {
        for (int i = first; i < first + many; i++) {
            if (value.order(values[i]) == 0) {
                return true;
            }
        }
        return false;
    }

    private static boolean holds(int operator, int order) {
        switch (operator) {
            case EQUAL:
                return order == 0;
            case UNEQUAL:
                return order != 0;
            case BELOW:
                return order < 0;
            case AT_MOST:
                return order <= 0;
            case ABOVE:
                return order > 0;
            default:
                return order >= 0;
        }
    }

    private static int contrary(int operator) {
        return operator <= UNEQUAL ? UNEQUAL - operator : BELOW + AT_LEAST - operator;
    }

    /** Whether some value from least to greatest can stand so to one from otherLeast to otherGreatest. */
    private static boolean canHold(int operator, Value least, Value greatest, Value otherLeast, Value otherGreatest) {
        switch (operator) {
            case EQUAL:
                return greatest.order(otherLeast) >= 0 && otherGreatest.order(least) >= 0;
            case UNEQUAL:
                // Both pairs are the same only if all four are.
                return least.order(otherGreatest) != 0 || greatest.order(otherLeast) != 0;
            case BELOW:
            case AT_MOST:
                return holds(operator, least.order(otherGreatest));
            default:
                return holds(operator, greatest.order(otherLeast));
        }
    }

    /**
     * A value of any type. A number has an empty text and a text the number 0, so that one order
     * serves all types.
     */
    private static final class Value {
        final int type;
        final long number;
        final byte[] text;

        Value(int type, long number, byte[] text) {
            this.type = type;
            this.number = number;
            this.text = text;
        }

        /** Below 0, 0 or above 0, as this value is less than, the same as or greater than the other. */
        int order(Value other) {
            for (int i = 0; i < text.length && i < other.text.length; i++) {
                int difference = (text[i] & 255) - (other.text[i] & 255);
                if (difference != 0) {
                    return difference;
                }
            }
            if (text.length != other.text.length) {
                return text.length - other.text.length;
            }
            // The difference of two whole numbers may not fit.
            return number < other.number ? -1 : number > other.number ? 1 : 0;
        }
    }

    /** The rows of a column, and what is known of it, which stays when the rows change. */
    private static final class Column {
        final int type;
        final Value[] rows = new Value[MOST_ROWS];
        int rowCount = 0;
        int textBytes = 0;
        boolean isKnown = false;
        int knownRows = 0;
        int knownMissing = 0;
        Value least = null;
        Value greatest = null;
        // No dictionary is one of size 0, as none is ever made of no values.
        Value[] entries = new Value[MOST_DICTIONARY];
        int entryCount = 0;
        Value[] spareEntries = new Value[MOST_DICTIONARY];

        Column(int type) {
            this.type = type;
        }

        boolean hasRoomFor(int n) {
            return n >= 1 && n <= MOST_ROWS - rowCount;
        }

        boolean hasRoomForBytes(int n) {
            return n <= MOST_TEXT_BYTES - textBytes;
        }

        /** Null is a row without a value. */
        void append(Value value, int n) {
            for (int i = 0; i < n && rowCount < MOST_ROWS; i++) {
                rows[rowCount] = value;
                rowCount++;
            }
            if (value != null) {
                textBytes += value.text.length;
            }
        }

        void removeRows() {
            rowCount = 0;
            textBytes = 0;
        }

        /** Null is a row without a value. */
        Value valueAt(int row) {
            return row < 0 || row >= rowCount ? null : rows[row];
        }

        boolean learn(int allRows, int missing) {
            Value low = null;
            Value high = null;
            for (int i = 0; i < rowCount; i++) {
                Value value = rows[i];
                if (value != null) {
                    low = low == null || value.order(low) < 0 ? value : low;
                    high = high == null || value.order(high) > 0 ? value : high;
                }
            }
            if (low == null && missing < allRows) {
                return false;
            }
            isKnown = true;
            knownRows = allRows;
            knownMissing = missing;
            least = low;
            greatest = high;
            entryCount = 0;
            return true;
        }

        boolean learnDictionary() {
            if (!isKnown || least == null || greatest == null) {
                return false;
            }
            int found = 0;
            for (int i = 0; i < rowCount; i++) {
                Value value = rows[i];
                if (value == null || isAmong(value, spareEntries, 0, found)) {
                    continue;
                }
                if (found >= MOST_DICTIONARY || value.order(least) < 0 || value.order(greatest) > 0) {
                    return false;
                }
                spareEntries[found] = value;
                found++;
            }
            if (found == 0) {
                return false;
            }
            Value[] old = entries;
            entries = spareEntries;
            entryCount = found;
            spareEntries = old;
            return true;
        }

        boolean mayMiss() {
            return knownMissing > 0;
        }

        boolean mayHaveValues() {
            return knownMissing < knownRows && least != null && greatest != null;
        }

        /** Whether the value is one that may be. */
        boolean mayHold(Value value) {
            if (entryCount > 0) {
                return isAmong(value, entries, 0, entryCount);
            }
            return value.order(least) >= 0 && value.order(greatest) <= 0;
        }
    }

    /** NOT, AND and OR have no columns; only WITH_COLUMN has another; only IN and WITH_LITERAL take literals. */
    private static final class Step {
        final int kind;
        final Column column;
        final int operator;
        final Column other;
        final Value[] literals;
        final int firstLiteral;
        final int literalCount;

        Step(int kind, Column column, int operator, Column other, Value[] literals, int firstLiteral, int literalCount) {
            this.kind = kind;
            this.column = column;
            this.operator = operator;
            this.other = other;
            this.literals = literals;
            this.firstLiteral = firstLiteral;
            this.literalCount = literalCount;
        }

        /** How many that wait it takes. */
        int takes() {
            return kind < NOT ? 0 : kind == NOT ? 1 : 2;
        }

        /** The truth at a row, of a step that looks at a column. */
        int atRow(int row) {
            Value value = column == null ? null : column.valueAt(row);
            if (kind == IS_NULL || kind == NOT_NULL) {
                return (value == null) == (kind == IS_NULL) ? TRUE : FALSE;
            }
            if (value == null) {
                return UNKNOWN;
            }
            if (kind == IN) {
                return isAmong(value, literals, firstLiteral, literalCount) ? TRUE : FALSE;
            }
            Value compared = kind == WITH_LITERAL ? literals[firstLiteral] : valueOfOther(row);
            if (compared == null) {
                return UNKNOWN;
            }
            return holds(operator, value.order(compared)) ? TRUE : FALSE;
        }

        private Value valueOfOther(int row) {
            return other == null ? null : other.valueAt(row);
        }

        /** The truths that a step that looks at a column can have. */
        int canBe() {
            boolean asksForNull = kind == IS_NULL || kind == NOT_NULL;
            if (column == null || !column.isKnown || other != null && !other.isKnown) {
                return truthSet(true, true, !asksForNull);
            }
            if (asksForNull) {
                int isNull = truthSet(column.mayHaveValues(), column.mayMiss(), false);
                return kind == IS_NULL ? isNull : not(isNull);
            }
            boolean canBeUnknown = column.mayMiss() || other != null && other.mayMiss();
            if (!column.mayHaveValues() || other != null && !other.mayHaveValues()) {
                return truthSet(false, false, canBeUnknown);
            }
            if (kind == IN) {
                return truthSet(canBeOutside(), canBeInside(), canBeUnknown);
            }
            return truthSet(canCompare(contrary(operator)), canCompare(operator), canBeUnknown);
        }

        private boolean canBeInside() {
            for (int i = firstLiteral; i < firstLiteral + literalCount; i++) {
                if (column.mayHold(literals[i])) {
                    return true;
                }
            }
            return false;
        }

        private boolean canBeOutside() {
            if (column.entryCount == 0) {
                return column.least.order(column.greatest) != 0 || isOutside(column.least);
            }
            for (int i = 0; i < column.entryCount; i++) {
                if (isOutside(column.entries[i])) {
                    return true;
                }
            }
            return false;
        }

        private boolean isOutside(Value value) {
            return !isAmong(value, literals, firstLiteral, literalCount);
        }

        private boolean canCompare(int by) {
            if (other != null) {
                return canHold(by, column.least, column.greatest, other.least, other.greatest);
            }
            Value literal = literals[firstLiteral];
            if (column.entryCount == 0) {
                return canHold(by, column.least, column.greatest, literal, literal);
            }
            for (int i = 0; i < column.entryCount; i++) {
                if (holds(by, column.entries[i].order(literal))) {
                    return true;
                }
            }
            return false;
        }
    }
}
