import java.util.function.ToLongFunction;

/**
 * Every way to be refused: what the call answers, and that it leaves everything else as it was. Each
 * refused call is made on an object of its own, all of which is then looked at. Only the tape may have
 * changed: a text that addText or literalText refuses has been cut off it, unless there was none such.
 */
public final class RefusalTest {
    private static final int NONE = -1;
    private static final int BOOL = 0;
    private static final int WHOLE = 1;
    private static final int TEXT = 2;
    private static final int IS_NULL = 0;
    private static final int NOT_NULL = 1;
    private static final int IN = 2;
    private static final int WITH_LITERAL = 3;
    private static final int WITH_COLUMN = 4;
    private static final int NOT = 5;
    private static final int AND = 6;
    private static final int OR = 7;
    private static final int EQUAL = 0;
    private static final int BELOW = 2;
    private static final int MIN = Integer.MIN_VALUE;
    private static final int MAX = Integer.MAX_VALUE;
    /** Numbers of no column and no literal, where there are four of each. */
    private static final int[] NOT_OF_FOUR = {-1, -2, 4, 5, 16, 64, 1000, MIN, MIN + 1, MAX - 1, MAX};
    private static final long[] NO_BOOLS = {-1, 2, 256, 1L << 32, (1L << 32) + 1, Long.MIN_VALUE, Long.MAX_VALUE};

    private static String refused = "";
    private static int wrong = 0;

    public static void main(String[] args) {
        ordinaryStands("nothing", ordinary(), false);
        fullStands("nothing", full(), false);
        refuseColumns();
        refuseRows();
        refuseTexts();
        refuseLiterals();
        refuseSteps();
        refuseStepParts();
        refuseScans();
        refuseKnowledge();
        refuseWhereFull();
        refuseTextsWhereFull();
        refuseDictionaries();
        refuseNoCondition();
        refuseForWantOfRoom();
        System.out.println(wrong == 0 ? "refused calls leave all as it was" : wrong + " answers are not as due");
        if (wrong != 0) {
            System.exit(1);
        }
    }

    private static void due(String what, long got, long want) {
        if (got != want) {
            wrong++;
            System.out.println("after " + refused + ": " + what + " answered " + got + ", due is " + want);
        }
    }

    private static void due(String what, boolean got, boolean want) {
        due(what, got ? 1 : 0, want ? 1 : 0);
    }

    private static void number(String call, ToLongFunction<TruthScan> made) {
        TruthScan x = ordinary();
        refused = call;
        due("the call", made.applyAsLong(x), NONE);
        ordinaryStands(call, x, false);
    }

    private static void yesNo(String call, ToLongFunction<TruthScan> made) {
        TruthScan x = ordinary();
        refused = call;
        due("the call", made.applyAsLong(x), 0);
        ordinaryStands(call, x, false);
    }

    private static void cutting(String call, long want, ToLongFunction<TruthScan> made) {
        TruthScan x = ordinary();
        refused = call;
        due("the call", made.applyAsLong(x), want);
        ordinaryStands(call, x, true);
    }

    private static void whereFull(String call, long want, boolean cut, ToLongFunction<TruthScan> made) {
        TruthScan x = full();
        refused = call;
        due("the call", made.applyAsLong(x), want);
        fullStands(call, x, cut);
    }

    private static int of(boolean answer) {
        return answer ? 1 : 0;
    }

    private static void refuseColumns() {
        for (int type : new int[] {-1, 3, MIN, MIN + 1, MAX - 1, MAX}) {
            number("column(" + type + ")", x -> x.column(type));
        }
        for (int no : NOT_OF_FOUR) {
            yesNo("clear(" + no + ")", x -> of(x.clear(no)));
        }
    }

    private static void refuseRows() {
        for (int no : NOT_OF_FOUR) {
            yesNo("add to column " + no, x -> of(x.add(no, 1, 1)));
            yesNo("miss in column " + no, x -> of(x.miss(no, 1)));
        }
        yesNo("add to a column of texts", x -> of(x.add(2, 0, 1)));
        for (long no : NO_BOOLS) {
            yesNo("add a bool of " + no, x -> of(x.add(0, no, 1)));
        }
        // Four rows are there: 996 more would be just enough.
        for (int n : new int[] {0, -1, 997, 998, 1000, 1001, MIN, MIN + 1, MAX - 4, MAX - 3, MAX - 1, MAX}) {
            for (int column = 0; column < 3; column++) {
                int c = column;
                yesNo("add to column " + c + " " + n + " times", x -> of(x.add(c, 1, n)));
                yesNo("miss in column " + c + " " + n + " times", x -> of(x.miss(c, n)));
            }
        }
    }

    private static void refuseTexts() {
        for (int n : new int[] {-1, -40, 41, 42, 255, 256, 1000, 1001, MIN, MIN + 1, MAX - 1, MAX}) {
            for (int column : new int[] {2, 1, 0, 4, -1}) {
                yesNo("addText to column " + column + " of " + n, x -> of(x.addText(column, n)));
            }
            number("literalText of " + n, x -> x.literalText(n));
        }
        for (int n : new int[] {0, 1, 40}) {
            for (int no : NOT_OF_FOUR) {
                cutting("addText to column " + no + " of " + n, 0, x -> of(x.addText(no, n)));
            }
            for (int no : new int[] {0, 1, 3}) {
                cutting("addText to column " + no + ", not of texts, of " + n, 0, x -> of(x.addText(no, n)));
            }
        }
    }

    private static void refuseLiterals() {
        for (int type : new int[] {-1, 2, 3, MIN, MIN + 1, MAX - 1, MAX}) {
            number("literal of type " + type, x -> x.literal(type, 1));
        }
        for (long no : NO_BOOLS) {
            number("literal, a bool of " + no, x -> x.literal(BOOL, no));
        }
    }

    private static void refuseSteps() {
        for (int kind : new int[] {-1, 8, 9, MIN, MIN + 1, MAX - 1, MAX}) {
            number("step of kind " + kind, x -> x.step(kind, 1, EQUAL, 0, 1));
        }
        for (int no : NOT_OF_FOUR) {
            for (int kind = IS_NULL; kind <= WITH_COLUMN; kind++) {
                int k = kind;
                number("step of kind " + k + ", column " + no, x -> x.step(k, no, EQUAL, 0, 1));
            }
            number("step with column " + no, x -> x.step(WITH_COLUMN, 1, EQUAL, no, 1));
            number("step with literal " + no, x -> x.step(WITH_LITERAL, 1, EQUAL, no, 1));
            number("step IN from literal " + no, x -> x.step(IN, 1, EQUAL, no, 1));
        }
    }

    private static void refuseStepParts() {
        for (int operator : new int[] {-1, 6, MIN, MIN + 1, MAX - 1, MAX}) {
            number("step with a literal by " + operator, x -> x.step(WITH_LITERAL, 1, operator, 0, 1));
            number("step with a column by " + operator, x -> x.step(WITH_COLUMN, 1, operator, 3, 1));
        }
        // The literals 0 and 1 are whole, 2 is a bool and 3 a text.
        for (int many : new int[] {0, -1, 3, 4, 5, MIN, MIN + 1, MAX - 1, MAX}) {
            number("step IN " + many + " from 0", x -> x.step(IN, 1, 0, 0, many));
        }
        for (int many : new int[] {0, -1, 2, 3, MIN, MAX}) {
            number("step IN " + many + " from 3", x -> x.step(IN, 2, 0, 3, many));
        }
        for (int kind : new int[] {IN, WITH_LITERAL, WITH_COLUMN}) {
            number("step of kind " + kind + ", bool with whole", x -> x.step(kind, 0, EQUAL, 1, 1));
            number("step of kind " + kind + ", text with whole", x -> x.step(kind, 2, EQUAL, 1, 1));
            number("step of kind " + kind + ", whole with another", x -> x.step(kind, 1, EQUAL, 2, 1));
        }
    }

    private static void refuseScans() {
        // The condition's columns have four rows.
        for (int n : new int[] {-1, 5, 6, 1000, 1001, MIN, MIN + 1, MAX - 1, MAX}) {
            number("scan(" + n + ")", x -> x.scan(n));
        }
        for (int row : new int[] {-1, 4, 1000, MIN, MAX}) {
            number("truth(" + row + ")", x -> x.truth(row));
        }
        for (int k : new int[] {-1, 2, 1000, MIN, MAX}) {
            number("chosen(" + k + ")", x -> x.chosen(k));
        }
    }

    private static void refuseKnowledge() {
        for (int no : NOT_OF_FOUR) {
            yesNo("known of column " + no, x -> of(x.known(no, 1, 1)));
            yesNo("dictionary of column " + no, x -> of(x.dictionary(no)));
            yesNo("unknown of column " + no, x -> of(x.unknown(no)));
        }
        int[][] cases = {{-1, -1}, {-1, 0}, {0, -1}, {0, 1}, {5, -1}, {5, 6}, {1000001, 0}, {1000001, 1000001},
            {1000000, 1000001}, {MAX, 0}, {MAX, MAX}, {MIN, MIN}, {MIN, 0}, {5, MAX}, {5, MIN}};
        for (int[] c : cases) {
            for (int column = 0; column < 4; column++) {
                int k = column;
                yesNo("known(" + k + ", " + c[0] + ", " + c[1] + ")", x -> of(x.known(k, c[0], c[1])));
            }
        }
        for (int rows : new int[] {1, 2, 1000000}) {
            yesNo("known of no rows, " + rows, x -> of(x.known(3, rows, rows - 1)));
            yesNo("known of no rows, none missing of " + rows, x -> of(x.known(3, rows, 0)));
        }
        yesNo("dictionary of what nothing is known of", x -> of(x.dictionary(3)));
    }

    private static void refuseWhereFull() {
        for (int number : new int[] {0, 1, -1, MIN, MAX}) {
            whereFull("feed(" + number + ", ..)", 0, false, x -> of(x.feed(number, number, number, number, number)));
        }
        for (int type = -1; type <= 3; type++) {
            int t = type;
            whereFull("column(" + t + ")", NONE, false, x -> x.column(t));
            whereFull("literal of type " + t, NONE, false, x -> x.literal(t, 1));
        }
        for (int n : new int[] {1, 2, 1000, MAX}) {
            whereFull("add " + n + " times", 0, false, x -> of(x.add(0, 1, n)));
            whereFull("miss " + n + " times", 0, false, x -> of(x.miss(0, n)));
            whereFull("miss " + n + " texts", 0, false, x -> of(x.miss(1, n)));
        }
        for (int kind = IS_NULL; kind <= OR; kind++) {
            int k = kind;
            whereFull("step of kind " + k, NONE, false, x -> x.step(k, 0, EQUAL, 0, 1));
        }
        whereFull("scan(1001)", NONE, false, x -> x.scan(1001));
        whereFull("scan(-1)", NONE, false, x -> x.scan(-1));
        whereFull("truth(1000)", NONE, false, x -> x.truth(1000));
        whereFull("chosen(1)", NONE, false, x -> x.chosen(1));
    }

    private static void refuseTextsWhereFull() {
        for (int n : new int[] {0, 1, 255, 256, 1000}) {
            whereFull("addText of " + n + " to a full column", 0, true, x -> of(x.addText(1, n)));
            whereFull("literalText of " + n, NONE, true, x -> x.literalText(n));
        }
        for (int n : new int[] {256, 257, 999, 1000}) {
            whereFull("addText of " + n, 0, true, x -> of(x.addText(15, n)));
        }
        for (int n : new int[] {-1, 1001, MIN, MAX}) {
            whereFull("addText of " + n + " to a full column", 0, false, x -> of(x.addText(1, n)));
            whereFull("addText of " + n, 0, false, x -> of(x.addText(15, n)));
            whereFull("literalText of " + n, NONE, false, x -> x.literalText(n));
        }
    }

    /** The old dictionary, LEAST and GREATEST stay when a new dictionary is refused. */
    private static void refuseDictionaries() {
        refuseDictionary("dictionary of no rows", x -> x.clear(1));
        refuseDictionary("dictionary of no values", x -> {
            x.clear(1);
            x.miss(1, 1000);
        });
        refuseDictionary("dictionary with one below LEAST", x -> x.add(1, 4, 1));
        refuseDictionary("dictionary with one above GREATEST", x -> x.add(1, 201, 1));
        refuseDictionary("dictionary with the least long", x -> x.add(1, Long.MIN_VALUE, 1));
        refuseDictionary("dictionary with the greatest long", x -> x.add(1, Long.MAX_VALUE, 1));
        refuseDictionary("dictionary of 101", x -> {
            x.clear(1);
            for (int i = 5; i < 106; i++) {
                x.add(1, i, 1);
            }
        });
    }

    /** Steps that are no condition: the refused calls leave them so, and the scan before as it was. */
    private static void refuseNoCondition() {
        for (int n : new int[] {-1, 0, 1, 4, 5, 1000, 1001, MIN, MAX}) {
            TruthScan x = ordinary();
            x.step(NOT_NULL, 1, 0, 0, 0);
            refused = "scan(" + n + ") where two wait";
            due("the call", x.scan(n), NONE);
            noConditionStands(x);
        }
        TruthScan x = ordinary();
        x.step(NOT_NULL, 1, 0, 0, 0);
        refused = "can() where two wait";
        due("the call", x.can(), NONE);
        noConditionStands(x);
    }

    private static void noConditionStands(TruthScan x) {
        latestScanStands(x);
        due("how many literals", x.literal(WHOLE, 0), 4);
        due("how many steps", x.step(AND, 0, 0, 0, 0), 7);
        due("can, as one waits now", x.can(), 7);
        due("scan, as one waits now", x.scan(4), 1);
        truthsDue("the condition", x, "1000");
        restStands(x, false);
    }

    /** A column whose texts have 8000 bytes refuses one more byte, and keeps all that it has. */
    private static void refuseForWantOfRoom() {
        for (int n : new int[] {1, 20}) {
            TruthScan x = new TruthScan();
            x.column(TEXT);
            x.column(WHOLE);
            x.add(1, 5, 33);
            x.miss(1, 1);
            for (int i = 0; i < 34; i++) {
                feedMany(x, i < 33 ? 12 : 4);
                x.addText(0, i < 33 ? 240 : 80);
            }
            x.known(0, 34, 0);
            x.literal(WHOLE, 5);
            x.step(WITH_LITERAL, 1, EQUAL, 0, 0);
            x.scan(34);
            feedMany(x, 1);
            refused = "addText of " + n + " to 8000 bytes";
            due("the call", x.addText(0, n), false);
            fullTextsStand(x);
        }
    }

    private static void fullTextsStand(TruthScan x) {
        due("the text was cut off", x.literalText(1), NONE);
        due("the first row", x.truth(0), 1);
        due("the last row", x.truth(33), 2);
        due("no row behind", x.truth(34), NONE);
        due("the last chosen", x.chosen(32), 32);
        due("no other chosen", x.chosen(33), NONE);
        due("the condition", x.scan(34), 33);
        due("how many literals", x.literal(WHOLE, 0), 1);
        due("how many steps", x.step(NOT, 0, 0, 0, 0), 1);
        x.forget();
        x.step(NOT_NULL, 0, 0, 0, 0);
        due("all the texts", x.scan(34), 34);
        due("and no more", x.scan(35), NONE);
        due("what is known", x.can(), 2);
        feedMany(x, 1);
        due("no byte more", x.addText(0, 1), false);
        due("but an empty text", x.addText(0, 0), true);
        due("how many columns", x.column(WHOLE), 2);
    }

    private interface Change {
        void make(TruthScan x);
    }

    private static void refuseDictionary(String call, Change change) {
        TruthScan x = new TruthScan();
        x.column(WHOLE);
        x.column(WHOLE);
        x.add(1, 5, 1);
        x.add(1, 150, 1);
        x.add(1, 200, 1);
        x.known(1, 10, 0);
        due("the first dictionary", x.dictionary(1), true);
        change.make(x);
        refused = call;
        due("the call", x.dictionary(1), false);
        canDue(x, 1, 5, 3);
        canDue(x, 1, 150, 3);
        canDue(x, 1, 200, 3);
        for (long no : new long[] {4, 6, 50, 105, 106, 201, Long.MIN_VALUE, Long.MAX_VALUE}) {
            canDue(x, 1, no, 1);
        }
        x.forget();
        x.step(IS_NULL, 1, 0, 0, 0);
        due("none is missing", x.can(), 1);
        x.clear(1);
        x.add(1, 5, 1);
        x.add(1, 200, 1);
        due("a dictionary of the old LEAST and GREATEST", x.dictionary(1), true);
    }

    /** Four columns, four literals, six steps, forty bytes on the tape, and a scan before the last step. */
    private static TruthScan ordinary() {
        refused = "the start";
        TruthScan x = new TruthScan();
        for (int type : new int[] {BOOL, WHOLE, TEXT, WHOLE}) {
            x.column(type);
        }
        x.add(0, 1, 1);
        x.add(0, 0, 1);
        x.miss(0, 1);
        x.add(0, 1, 1);
        x.add(1, 5, 1);
        x.add(1, 9, 1);
        x.miss(1, 1);
        x.add(1, 7, 1);
        feedForty(x);
        x.addText(2, 40);
        x.addText(2, 0);
        x.miss(2, 1);
        feedForty(x);
        x.addText(2, 2);
        x.known(0, 10, 1);
        x.known(1, 1000000, 0);
        x.dictionary(1);
        x.known(2, 20, 2);
        x.literal(WHOLE, 7);
        x.literal(WHOLE, 9);
        x.literal(BOOL, 1);
        feedForty(x);
        x.literalText(2);
        x.step(IN, 1, 0, 0, 2);
        x.step(WITH_LITERAL, 0, EQUAL, 2, 0);
        x.step(AND, 0, 0, 0, 0);
        x.step(WITH_LITERAL, 2, BELOW, 3, 0);
        x.step(OR, 0, 0, 0, 0);
        due("the scan", x.scan(4), 2);
        x.step(NOT, 0, 0, 0, 0);
        feedForty(x);
        return x;
    }

    private static void feedForty(TruthScan x) {
        due("room", x.feed(0x61627F80, 1, -1, MIN, MAX), true);
        due("room", x.feed(7, 0xFF00FF00, 0, 256, -2), true);
    }

    private static void ordinaryStands(String call, TruthScan x, boolean cut) {
        refused = call;
        latestScanStands(x);
        due("can", x.can(), 7);
        due("the condition's scan", x.scan(4), 1);
        truthsDue("the condition", x, "1020");
        due("how many literals", x.literal(WHOLE, 0), 4);
        due("how many steps", x.step(NOT, 0, 0, 0, 0), 6);
        restStands(x, cut);
    }

    private static void latestScanStands(TruthScan x) {
        truthsDue("the latest scan", x, "0121");
        due("its first chosen", x.chosen(0), 1);
        due("its second chosen", x.chosen(1), 3);
        due("its third chosen", x.chosen(2), NONE);
    }

    /** What is there beside steps, literals and the latest scan. */
    private static void restStands(TruthScan x, boolean cut) {
        tapeStands(x, cut);
        ordinaryValuesStand(x);
        ordinaryKnowledgeStands(x);
        for (int column = 0; column < 4; column++) {
            int room = column == 3 ? 1000 : 996;
            due("too much for column " + column, x.miss(column, room + 1), false);
            due("just enough for column " + column, x.miss(column, room), true);
        }
        due("how many columns", x.column(WHOLE), 4);
    }

    private static void tapeStands(TruthScan x, boolean cut) {
        x.forget();
        if (cut) {
            due("nothing on the tape", x.literalText(1), NONE);
            feedForty(x);
        }
        due("no more on the tape", x.literalText(41), NONE);
        due("forty on the tape", x.literalText(40), 0);
        x.step(WITH_LITERAL, 2, EQUAL, 0, 0);
        due("as they were", x.scan(4), 1);
        truthsDue("as they were", x, "1020");
    }

    private static void ordinaryValuesStand(TruthScan x) {
        rowsDue(x, 0, "0010");
        rowsDue(x, 1, "0010");
        rowsDue(x, 2, "0010");
        valuesDue(x, 0, BOOL, 1, "1021");
        valuesDue(x, 0, BOOL, 0, "0120");
        valuesDue(x, 1, WHOLE, 5, "1020");
        valuesDue(x, 1, WHOLE, 9, "0120");
        valuesDue(x, 1, WHOLE, 7, "0021");
        x.forget();
        x.literalText(0);
        x.step(WITH_LITERAL, 2, EQUAL, 0, 0);
        due("the empty text", x.scan(4), 1);
        truthsDue("the empty text", x, "0120");
        x.forget();
        feedForty(x);
        x.literalText(2);
        x.step(WITH_LITERAL, 2, EQUAL, 0, 0);
        due("the short text", x.scan(4), 1);
        truthsDue("the short text", x, "0021");
    }

    private static void ordinaryKnowledgeStands(TruthScan x) {
        int[] nulls = {3, 1, 3, 3};
        for (int column = 0; column < 4; column++) {
            x.forget();
            x.step(IS_NULL, column, 0, 0, 0);
            due("IS NULL of column " + column, x.can(), nulls[column]);
        }
        x.forget();
        x.step(WITH_LITERAL, 0, EQUAL, x.literal(BOOL, 1), 0);
        due("can of the bools", x.can(), 7);
        canDue(x, 1, 4, 1);
        canDue(x, 1, 5, 3);
        canDue(x, 1, 6, 1);
        canDue(x, 1, 7, 3);
        canDue(x, 1, 9, 3);
        canDue(x, 1, 10, 1);
        canDue(x, 3, 5, 7);
        x.forget();
        x.feed(0x61000000, 0, 0, 0, 0);
        x.step(WITH_LITERAL, 2, EQUAL, x.literalText(1), 0);
        due("can of a text between", x.can(), 7);
        x.forget();
        x.feed(0x62000000, 0, 0, 0, 0);
        x.step(WITH_LITERAL, 2, EQUAL, x.literalText(1), 0);
        due("can of a text above", x.can(), 5);
    }

    /** As many columns, literals, steps, rows and bytes of tape as there may be. */
    private static TruthScan full() {
        refused = "the start";
        TruthScan x = new TruthScan();
        for (int i = 0; i < 16; i++) {
            x.column(i == 0 ? WHOLE : TEXT);
        }
        x.add(0, 1, 999);
        x.add(0, 2, 1);
        x.miss(1, 999);
        x.addText(1, 0);
        feedMany(x, 13);
        x.addText(15, 255);
        for (int i = 0; i < 64; i++) {
            x.literal(WHOLE, i);
        }
        x.step(WITH_LITERAL, 0, EQUAL, 1, 0);
        for (int i = 1; i < 64; i++) {
            x.step(NOT, 0, 0, 0, 0);
        }
        feedMany(x, 50);
        due("the scan", x.scan(1000), 1);
        return x;
    }

    private static void feedMany(TruthScan x, int times) {
        for (int i = 0; i < times; i++) {
            due("room for feed " + i, x.feed(i, -i, i << 8, i << 16, i << 24), true);
        }
    }

    private static void fullStands(String call, TruthScan x, boolean cut) {
        refused = call;
        due("the first row", x.truth(0), 0);
        due("the last row", x.truth(999), 1);
        due("no row behind", x.truth(1000), NONE);
        due("the chosen one", x.chosen(0), 999);
        due("no other chosen one", x.chosen(1), NONE);
        due("can", x.can(), 7);
        due("scan", x.scan(1000), 1);
        due("the chosen one again", x.chosen(0), 999);
        due("no seventeenth column", x.column(TEXT), NONE);
        due("no sixty-fifth literal", x.literal(WHOLE, 0), NONE);
        due("no sixty-fifth step", x.step(NOT, 0, 0, 0, 0), NONE);
        due("no row more", x.add(0, 1, 1), false);
        due("no text more", x.miss(1, 1), false);
        x.forget();
        if (cut) {
            due("nothing on the tape", x.literalText(1), NONE);
            feedMany(x, 50);
        }
        due("no feed more", x.feed(0, 0, 0, 0, 0), false);
        due("no more on the tape", x.literalText(1001), NONE);
        due("its first bytes", x.literalText(255), 0);
        x.step(WITH_LITERAL, 15, EQUAL, 0, 0);
        due("as they were", x.scan(1), 1);
        due("one text in the last column", x.scan(2), NONE);
        x.forget();
        x.step(NOT_NULL, 1, 0, 0, 0);
        due("one text in the full column", x.scan(1000), 1);
        due("the last", x.chosen(0), 999);
        x.forget();
        x.step(NOT_NULL, 0, 0, 0, 0);
        due("all the whole ones", x.scan(1000), 1000);
    }

    private static void truthsDue(String what, TruthScan x, String truths) {
        due(what + ", no row -1", x.truth(-1), NONE);
        for (int row = 0; row < truths.length(); row++) {
            due(what + ", row " + row, x.truth(row), truths.charAt(row) - '0');
        }
        due(what + ", no row behind", x.truth(truths.length()), NONE);
    }

    private static void rowsDue(TruthScan x, int column, String isNull) {
        x.forget();
        x.step(IS_NULL, column, 0, 0, 0);
        due("one missing in column " + column, x.scan(isNull.length()), 1);
        truthsDue("IS NULL of column " + column, x, isNull);
        due("no more rows in column " + column, x.scan(isNull.length() + 1), NONE);
    }

    private static void valuesDue(TruthScan x, int column, int type, long value, String truths) {
        x.forget();
        x.step(WITH_LITERAL, column, EQUAL, x.literal(type, value), 0);
        due("column " + column + " = " + value, x.scan(truths.length()) > 0, true);
        truthsDue("column " + column + " = " + value, x, truths);
    }

    private static void canDue(TruthScan x, int column, long value, int want) {
        x.forget();
        x.step(WITH_LITERAL, column, EQUAL, x.literal(WHOLE, value), 0);
        due("can of column " + column + " = " + value, x.can(), want);
    }
}
