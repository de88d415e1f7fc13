import java.nio.charset.StandardCharsets;

/** Each promise by hand: ordinary inputs, the edges that the document names, and wrong inputs. */
public final class PromiseTest {
    private static final int BOOL = 0;
    private static final int WHOLE = 1;
    private static final int TEXT = 2;
    private static final int NONE = -1;
    private static final int[] NO_INDEX = {-1, Integer.MIN_VALUE, Integer.MAX_VALUE};

    private static int wrong = 0;

    public static void main(String[] args) {
        promise1NewObject();
        promise2Feed();
        promise3Column();
        promise4Add();
        promise5AddText();
        promise5TextRoom(false);
        promise5TextRoom(true);
        promise6Miss();
        promise7Clear();
        promise8Literal();
        promise9LiteralText();
        promise10Step();
        promise10StepLiterals();
        promise11Forget();
        promise12Scan();
        promise12Operators();
        promise12Texts();
        promise12Truths();
        promise13Truth();
        promise14Chosen();
        promise15Known();
        promise16Dictionary();
        promise17Unknown();
        promise18Nulls();
        promise18Literals();
        promise18Dictionaries();
        promise18In();
        promise18Columns();
        promise18Combined();
        promise18NoCondition();
        System.out.println(wrong == 0 ? "all promises hold" : wrong + " answers are not as due");
        if (wrong != 0) {
            System.exit(1);
        }
    }

    private static void due(String what, long got, long want) {
        if (got != want) {
            wrong++;
            System.out.println(what + " answered " + got + ", due is " + want);
        }
    }

    private static void due(String what, boolean got, boolean want) {
        due(what, got ? 1 : 0, want ? 1 : 0);
    }

    private static void promise1NewObject() {
        TruthScan x = new TruthScan();
        due("1: no column to add to", x.add(0, 0, 1), false);
        due("1: no column to miss in", x.miss(0, 1), false);
        due("1: no column to clear", x.clear(0), false);
        due("1: no column to know", x.known(0, 1, 1), false);
        due("1: no column with a dictionary", x.dictionary(0), false);
        due("1: no column to not know", x.unknown(0), false);
        due("1: the tape is empty", x.literalText(1), NONE);
        due("1: no scan yet", x.truth(0), NONE);
        due("1: nothing chosen yet", x.chosen(0), NONE);
        due("1: no steps are true", x.can(), 2);
        due("1: the first literal", x.literal(WHOLE, 1), 0);
        due("1: the first step", x.step(5, 0, 0, 0, 0), 0);
        due("1: the first column", x.column(WHOLE), 0);
        due("1: NONE", TruthScan.NONE, NONE);
    }

    private static void promise2Feed() {
        TruthScan x = new TruthScan();
        for (int i = 0; i < 50; i++) {
            due("2: feed " + i, x.feed(i, i, i, i, i), true);
        }
        due("2: a full tape", x.feed(1, 2, 3, 4, 5), false);
        due("2: it has 1000", x.literalText(1001), NONE);
        due("2: and is cut", x.literalText(20), 0);
        due("2: room again", x.feed(1, 2, 3, 4, 5), true);
        due("2: twenty now", x.literalText(21), NONE);

        TruthScan y = new TruthScan();
        y.column(TEXT);
        y.feed(0x01020304, 0x85868788, 0x090A0B0C, 0x0D0E0F10, 0xFF121314);
        y.addText(0, 20);
        y.feed(0x01020304, 0x85868788, 0x090A0B0C, 0x0D0E0F10, 0xFF121315);
        y.literalText(20);
        y.step(3, 0, 2, 0, 0);
        due("2: the last byte is the lowest of the last number", y.scan(1), 1);
        y.forget();
        y.feed(0x02010304, 0, 0, 0, 0);
        y.literalText(1);
        y.feed(0x01020304, 0x85868788, 0, 0, 0);
        y.literalText(5);
        y.step(3, 0, 2, 0, 0);
        due("2: the first byte is the highest", y.scan(1), 1);
        y.step(3, 0, 4, 1, 0);
        y.step(6, 0, 0, 0, 0);
        due("2: the fifth is the second number's", y.scan(1), 1);
    }

    private static void promise3Column() {
        TruthScan x = new TruthScan();
        due("3: no type -1", x.column(-1), NONE);
        due("3: no type 3", x.column(3), NONE);
        due("3: no such type", x.column(Integer.MIN_VALUE), NONE);
        for (int i = 0; i < 16; i++) {
            due("3: column " + i, x.column(i % 3), i);
        }
        due("3: no seventeenth", x.column(WHOLE), NONE);
        due("3: nor one to miss in", x.miss(16, 1), false);
        x.step(0, 15, 0, 0, 0);
        due("3: nothing is known of it", x.can(), 3);
        due("3: it has no rows", x.scan(1), NONE);
    }

    private static void promise4Add() {
        TruthScan x = new TruthScan();
        x.column(BOOL);
        x.column(WHOLE);
        x.column(TEXT);
        due("4: false", x.add(0, 0, 1), true);
        due("4: true", x.add(0, 1, 1), true);
        due("4: no bool 2", x.add(0, 2, 1), false);
        due("4: no bool -1", x.add(0, -1, 1), false);
        due("4: no bool 2^32", x.add(0, 1L << 32, 1), false);
        due("4: the least whole one", x.add(1, Long.MIN_VALUE, 1), true);
        due("4: the greatest whole one", x.add(1, Long.MAX_VALUE, 1), true);
        due("4: not of texts", x.add(2, 0, 1), false);
        due("4: not 0 times", x.add(1, 1, 0), false);
        due("4: not -1 times", x.add(1, 1, -1), false);
        due("4: not so often", x.add(1, 1, Integer.MAX_VALUE), false);
        due("4: not so seldom", x.add(1, 1, Integer.MIN_VALUE), false);
        due("4: one too many", x.add(1, 1, 999), false);
        x.step(1, 1, 0, 0, 0);
        due("4: and none came", x.scan(2), 2);
        due("4: none at all", x.scan(3), NONE);
        due("4: just enough", x.add(1, 1, 998), true);
        due("4: all there", x.scan(1000), 1000);
        due("4: full", x.add(1, 1, 1), false);
        for (int no : NO_INDEX) {
            due("4: no column " + no, x.add(no, 0, 1), false);
        }
        due("4: no column 3", x.add(3, 0, 1), false);
    }

    private static void promise5AddText() {
        TruthScan x = new TruthScan();
        x.column(TEXT);
        x.column(WHOLE);
        due("5: an empty text", x.addText(0, 0), true);
        due("5: more than on an empty tape", x.addText(0, 1), false);
        put(x, "abcdefghijklmnopqrst");
        due("5: n below 0", x.addText(0, -1), false);
        due("5: n far below 0", x.addText(0, Integer.MIN_VALUE), false);
        due("5: n too many", x.addText(0, 21), false);
        due("5: n far too many", x.addText(0, Integer.MAX_VALUE), false);
        due("5: no such column either", x.addText(9, 21), false);
        due("5: the tape stayed", x.addText(0, 20), true);
        due("5: now it is empty", x.addText(0, 1), false);
        put(x, "abc");
        due("5: the tape is empty after a short text", x.addText(0, 3), true);
        due("5: nothing is left", x.addText(0, 1), false);
        put(x, "abc");
        due("5: no column of texts", x.addText(1, 1), false);
        due("5: the text was cut off", x.addText(0, 1), false);
        for (int no : NO_INDEX) {
            put(x, "abc");
            due("5: no column " + no, x.addText(no, 1), false);
            due("5: the text was cut off too", x.addText(0, 1), false);
        }
        x.step(1, 0, 0, 0, 0);
        due("5: three rows", x.scan(3), 3);
        due("5: no more", x.scan(4), NONE);
        x.miss(0, 996);
        due("5: the thousandth", x.addText(0, 0), true);
        put(x, "abc");
        due("5: a column is full", x.addText(0, 0), false);
        due("5: the text was cut off even so", x.literalText(1), NONE);
    }

    private static void promise5TextRoom(boolean clearedBefore) {
        TruthScan x = new TruthScan();
        x.column(TEXT);
        x.column(TEXT);
        feedMany(x, 13);
        due("5: longer than 255", x.addText(0, 256), false);
        due("5: that was cut off", x.addText(0, 1), false);
        if (clearedBefore) {
            feedMany(x, 1);
            x.addText(0, 1);
            x.clear(0);
        }
        for (int i = 0; i < 31; i++) {
            feedMany(x, 13);
            due("5: a long text " + i, x.addText(0, 255), true);
        }
        feedMany(x, 5);
        due("5: no room for 96 above 7905", x.addText(0, 96), false);
        due("5: cut off for want of room", x.addText(1, 1), false);
        feedMany(x, 5);
        due("5: room for 95 above 7905", x.addText(0, 95), true);
        feedMany(x, 1);
        due("5: no room for one more", x.addText(0, 1), false);
        due("5: but for an empty one", x.addText(0, 0), true);
        feedMany(x, 1);
        due("5: the other column has room", x.addText(1, 20), true);
        due("5: cleared", x.clear(0), true);
        feedMany(x, 1);
        due("5: there is room again", x.addText(0, 20), true);
    }

    private static void promise6Miss() {
        TruthScan x = new TruthScan();
        for (int type = 0; type < 3; type++) {
            x.column(type);
            due("6: in a column of type " + type, x.miss(type, 2), true);
            x.forget();
            x.step(0, type, 0, 0, 0);
            due("6: without values in type " + type, x.scan(2), 2);
        }
        due("6: not 0 times", x.miss(0, 0), false);
        due("6: not -1 times", x.miss(0, -1), false);
        due("6: not so often", x.miss(0, Integer.MAX_VALUE), false);
        due("6: one too many", x.miss(0, 999), false);
        due("6: just enough", x.miss(0, 998), true);
        due("6: full", x.miss(0, 1), false);
        due("6: full for values too", x.add(0, 1, 1), false);
        for (int no : NO_INDEX) {
            due("6: no column " + no, x.miss(no, 1), false);
        }
        due("6: no column 3", x.miss(3, 1), false);
    }

    private static void promise7Clear() {
        TruthScan x = new TruthScan();
        x.column(WHOLE);
        x.column(WHOLE);
        x.add(0, 1, 1000);
        x.add(1, 1, 3);
        x.known(0, 5, 0);
        due("7: cleared", x.clear(0), true);
        x.step(1, 0, 0, 0, 0);
        due("7: no rows", x.scan(1), NONE);
        due("7: what is known stays", x.can(), 2);
        due("7: room again", x.add(0, 1, 1000), true);
        x.forget();
        x.step(1, 1, 0, 0, 0);
        due("7: the other column stays", x.scan(3), 3);
        for (int no : NO_INDEX) {
            due("7: no column " + no, x.clear(no), false);
        }
        due("7: no column 2", x.clear(2), false);
    }

    private static void promise8Literal() {
        TruthScan x = new TruthScan();
        due("8: not texts", x.literal(TEXT, 0), NONE);
        due("8: no type 3", x.literal(3, 0), NONE);
        due("8: no type -1", x.literal(-1, 0), NONE);
        due("8: no bool 2", x.literal(BOOL, 2), NONE);
        due("8: no bool -1", x.literal(BOOL, -1), NONE);
        due("8: false", x.literal(BOOL, 0), 0);
        due("8: true", x.literal(BOOL, 1), 1);
        for (int i = 2; i < 64; i++) {
            due("8: literal " + i, x.literal(WHOLE, Long.MIN_VALUE + i), i);
        }
        due("8: no sixty-fifth", x.literal(WHOLE, 1), NONE);
        x.column(WHOLE);
        x.add(0, Long.MIN_VALUE + 63, 1);
        x.step(3, 0, 0, 63, 0);
        due("8: the last one's value", x.scan(1), 1);
    }

    private static void promise9LiteralText() {
        TruthScan x = new TruthScan();
        due("9: an empty text", x.literalText(0), 0);
        due("9: nothing on the tape", x.literalText(1), NONE);
        put(x, "abc");
        due("9: n below 0", x.literalText(-1), NONE);
        due("9: n too many", x.literalText(21), NONE);
        due("9: the tape stayed", x.literalText(20), 1);
        due("9: now it is empty", x.literalText(1), NONE);
        feedMany(x, 13);
        due("9: longer than 255", x.literalText(256), NONE);
        due("9: that was cut off", x.literalText(1), NONE);
        feedMany(x, 13);
        due("9: of 255", x.literalText(255), 2);
        for (int i = 3; i < 64; i++) {
            due("9: literal " + i, x.literalText(0), i);
        }
        due("9: no sixty-fifth", x.literalText(0), NONE);
        put(x, "abc");
        due("9: nor with a text", x.literalText(3), NONE);
        due("9: which was cut off", x.literalText(1), NONE);
        x.forget();
        due("9: nothing was left on the tape", x.literalText(1), NONE);

        TruthScan y = new TruthScan();
        for (int i = 0; i < 34; i++) {
            feedMany(y, 13);
            due("9: literals have no room in common", y.literalText(255), i);
        }
    }

    private static void promise10Step() {
        TruthScan x = new TruthScan();
        x.column(BOOL);
        x.column(WHOLE);
        x.column(TEXT);
        x.column(WHOLE);
        for (int no : NO_INDEX) {
            due("10: no kind " + no, x.step(no, 0, 0, 0, 1), NONE);
            for (int kind = 0; kind < 5; kind++) {
                due("10: no column " + no, x.step(kind, no, 0, 0, 1), NONE);
            }
            due("10: no other column " + no, x.step(4, 1, 0, no, 0), NONE);
            due("10: no operator " + no, x.step(4, 1, no, 3, 0), NONE);
        }
        due("10: no kind 8", x.step(8, 0, 0, 0, 1), NONE);
        due("10: no column 4", x.step(0, 4, 0, 0, 0), NONE);
        due("10: no other column 4", x.step(4, 1, 0, 4, 0), NONE);
        due("10: no operator 6", x.step(4, 1, 6, 3, 0), NONE);
        due("10: types differ", x.step(4, 0, 0, 1, 0), NONE);
        due("10: types differ in texts", x.step(4, 1, 0, 2, 0), NONE);
        due("10: two columns", x.step(4, 1, 5, 3, -9), 0);
        due("10: one column twice", x.step(4, 2, 0, 2, 0), 1);
        due("10: IS NULL has no operator", x.step(0, 0, -5, -6, -7), 2);
        due("10: NOT NULL has no other", x.step(1, 2, 99, 99, 99), 3);
        due("10: NOT has nothing", x.step(5, -1, -2, -3, -4), 4);
        due("10: AND has nothing", x.step(6, 99, 99, 99, 99), 5);
        due("10: OR has nothing", x.step(7, Integer.MIN_VALUE, 0, 0, 0), 6);
        for (int i = 7; i < 64; i++) {
            due("10: step " + i, x.step(5, 0, 0, 0, 0), i);
        }
        due("10: no sixty-fifth", x.step(5, 0, 0, 0, 0), NONE);
    }

    private static void promise10StepLiterals() {
        TruthScan x = new TruthScan();
        x.column(BOOL);
        x.column(WHOLE);
        x.column(TEXT);
        due("10: no literals yet", x.step(3, 1, 0, 0, 0), NONE);
        x.literal(WHOLE, 1);
        x.literal(WHOLE, 2);
        x.literal(BOOL, 1);
        x.literalText(0);
        for (int no : NO_INDEX) {
            due("10: no literal " + no, x.step(3, 1, 0, no, 0), NONE);
            due("10: no first literal " + no, x.step(2, 1, 0, no, 1), NONE);
            due("10: no operator " + no, x.step(3, 1, no, 0, 0), NONE);
            due("10: not " + no + " literals", x.step(2, 1, 0, 1, no), NONE);
        }
        due("10: no literal 4", x.step(3, 2, 0, 4, 0), NONE);
        due("10: no operator 6", x.step(3, 1, 6, 0, 0), NONE);
        due("10: bool, but whole", x.step(3, 0, 0, 0, 0), NONE);
        due("10: whole, but bool", x.step(3, 1, 0, 2, 0), NONE);
        due("10: whole, but text", x.step(3, 1, 0, 3, 0), NONE);
        due("10: text, but whole", x.step(3, 2, 0, 0, 0), NONE);
        due("10: IN no literals", x.step(2, 1, 0, 0, 0), NONE);
        due("10: IN with a bool among them", x.step(2, 1, 0, 0, 3), NONE);
        due("10: IN with the second a bool", x.step(2, 1, 0, 1, 2), NONE);
        due("10: IN of another type", x.step(2, 0, 0, 0, 1), NONE);
        due("10: IN beyond the last", x.step(2, 2, 0, 3, 2), NONE);
        due("10: IN two", x.step(2, 1, 77, 0, 2), 0);
        due("10: IN one text", x.step(2, 2, 0, 3, 1), 1);
        due("10: compared, many means nothing", x.step(3, 1, 5, 1, -8), 2);
        due("10: compared bool", x.step(3, 0, 0, 2, 99), 3);
    }

    private static void promise11Forget() {
        TruthScan x = new TruthScan();
        x.column(WHOLE);
        x.add(0, 1, 2);
        x.known(0, 4, 0);
        put(x, "ab");
        x.literal(WHOLE, 1);
        x.step(3, 0, 0, 0, 0);
        x.scan(2);
        x.forget();
        due("11: no steps", x.scan(5), 5);
        due("11: no literals", x.step(3, 0, 0, 0, 0), NONE);
        due("11: literals from 0", x.literal(WHOLE, 2), 0);
        due("11: steps from 0", x.step(3, 0, 0, 0, 0), 0);
        due("11: rows stay", x.scan(2), 0);
        x.forget();
        due("11: the latest scan stays", x.truth(1), 0);
        due("11: the tape stays", x.literalText(20), 0);
        x.step(1, 0, 0, 0, 0);
        due("11: what is known stays", x.can(), 2);
        for (int i = 0; i < 70; i++) {
            x.forget();
            due("11: full ones are emptied", x.literal(WHOLE, i) + x.step(0, 0, 0, 0, 0), 0);
        }
    }

    private static void promise12Scan() {
        TruthScan x = new TruthScan();
        due("12: no steps, all rows", x.scan(1000), 1000);
        due("12: n above 1000", x.scan(1001), NONE);
        due("12: n below 0", x.scan(-1), NONE);
        for (int no : NO_INDEX) {
            due("12: not n " + no, x.scan(no), NONE);
        }
        x.column(WHOLE);
        x.column(WHOLE);
        x.add(0, 1, 3);
        x.add(1, 1, 2);
        x.step(5, 0, 0, 0, 0);
        due("12: NOT of nothing", x.scan(0), NONE);
        x.forget();
        x.step(1, 0, 0, 0, 0);
        x.step(6, 0, 0, 0, 0);
        due("12: AND of one", x.scan(0), NONE);
        x.step(1, 0, 0, 0, 0);
        x.step(1, 0, 0, 0, 0);
        due("12: what failed once stays so", x.scan(0), NONE);
        x.forget();
        x.step(1, 0, 0, 0, 0);
        x.step(1, 1, 0, 0, 0);
        due("12: two wait", x.scan(0), NONE);
        x.step(7, 1, 0, 0, 0);
        due("12: one waits", x.scan(2), 2);
        due("12: the second step's column is short", x.scan(3), NONE);
        x.forget();
        x.step(4, 0, 0, 1, 0);
        due("12: the other column is short", x.scan(3), NONE);
        due("12: both are long enough", x.scan(2), 2);
        x.forget();
        x.step(4, 1, 0, 0, 0);
        due("12: the first column is short", x.scan(3), NONE);
        x.forget();
        x.step(1, 0, 0, 1, 0);
        x.step(5, 1, 0, 1, 0);
        x.step(5, 1, 0, 1, 0);
        due("12: columns that a kind hasn't mean nothing", x.scan(3), 3);
        deepCondition();
    }

    private static void deepCondition() {
        TruthScan x = new TruthScan();
        x.column(BOOL);
        x.add(0, 1, 1000);
        for (int i = 0; i < 32; i++) {
            x.step(1, 0, 0, 0, 0);
        }
        for (int i = 0; i < 31; i++) {
            x.step(6, 0, 0, 0, 0);
        }
        due("12: thirty-two wait", x.scan(1000), 1000);
        x.step(5, 0, 0, 0, 0);
        due("12: not them", x.scan(1000), 0);
        x.forget();
        for (int i = 0; i < 64; i++) {
            x.step(1, 0, 0, 0, 0);
        }
        due("12: sixty-four wait", x.scan(1), NONE);
    }

    private static void promise12Operators() {
        // Rows: below the literal, the same, above it, missing.
        int[][] wanted = {{0, 1, 0, 2}, {1, 0, 1, 2}, {1, 0, 0, 2}, {1, 1, 0, 2}, {0, 0, 1, 2}, {0, 1, 1, 2}};
        for (int operator = 0; operator < 6; operator++) {
            TruthScan x = new TruthScan();
            x.column(WHOLE);
            x.column(WHOLE);
            x.add(0, Long.MIN_VALUE, 1);
            x.add(0, 1, 1);
            x.add(0, Long.MAX_VALUE, 1);
            x.miss(0, 1);
            x.add(1, 1, 4);
            x.literal(WHOLE, 1);
            x.step(3, 0, operator, 0, 0);
            truthsDue("12: whole with literal by " + operator, x, wanted[operator]);
            x.forget();
            x.step(4, 0, operator, 1, 0);
            truthsDue("12: whole with column by " + operator, x, wanted[operator]);
        }
        TruthScan x = new TruthScan();
        x.column(BOOL);
        x.column(BOOL);
        x.add(0, 0, 1);
        x.add(0, 1, 2);
        x.miss(0, 1);
        x.add(1, 1, 1);
        x.add(1, 0, 1);
        x.miss(1, 2);
        x.step(4, 0, 2, 1, 0);
        truthsDue("12: false is less than true", x, new int[] {1, 0, 2, 2});
    }

    private static void promise12Texts() {
        String[] ordered = {"", "\0", "\0\0", "a", "a\0", "ab", "b", "\u007f", "\u0080", "\u00ff", "\u00ff\u00ff"};
        TruthScan x = new TruthScan();
        x.column(TEXT);
        for (String text : ordered) {
            put(x, text);
            x.addText(0, text.length());
        }
        for (int i = 0; i < ordered.length; i++) {
            x.forget();
            put(x, ordered[i]);
            x.literalText(ordered[i].length());
            x.step(3, 0, 2, 0, 0);
            due("12: texts below " + i, x.scan(ordered.length), i);
            x.forget();
            put(x, ordered[i]);
            x.literalText(ordered[i].length());
            x.step(2, 0, 0, 0, 1);
            due("12: the same text as " + i, x.scan(ordered.length), 1);
            due("12: which is " + i, x.chosen(0), i);
        }
    }

    private static void promise12Truths() {
        // A column of bools, compared with true, has the truths 0, 1 and 2 themselves.
        int[] not = {1, 0, 2};
        int[] and = {0, 0, 0, 0, 1, 2, 0, 2, 2};
        int[] or = {0, 1, 2, 1, 1, 1, 2, 1, 2};
        TruthScan x = new TruthScan();
        x.column(BOOL);
        x.column(BOOL);
        for (int first = 0; first < 3; first++) {
            for (int second = 0; second < 3; second++) {
                addTruth(x, 0, first);
                addTruth(x, 1, second);
            }
        }
        x.literal(BOOL, 1);
        x.step(3, 1, 0, 0, 0);
        x.step(5, 0, 0, 0, 0);
        truthsDue("12: NOT", x, new int[] {not[0], not[1], not[2], not[0], not[1], not[2], not[0], not[1], not[2]});
        for (int kind = 6; kind < 8; kind++) {
            x.forget();
            x.literal(BOOL, 1);
            x.step(3, 0, 0, 0, 0);
            x.step(3, 1, 0, 0, 0);
            x.step(kind, 0, 0, 0, 0);
            truthsDue("12: kind " + kind, x, kind == 6 ? and : or);
        }
    }

    private static void promise13Truth() {
        TruthScan x = new TruthScan();
        x.column(WHOLE);
        x.add(0, 1, 1);
        x.add(0, 2, 1);
        x.miss(0, 1);
        x.literal(WHOLE, 2);
        x.literal(WHOLE, 3);
        x.step(2, 0, 0, 0, 2);
        x.scan(3);
        due("13: FALSE", x.truth(0), 0);
        due("13: TRUE", x.truth(1), 1);
        due("13: UNKNOWN", x.truth(2), 2);
        due("13: no row 3", x.truth(3), NONE);
        for (int no : NO_INDEX) {
            due("13: no row " + no, x.truth(no), NONE);
        }
        x.clear(0);
        due("13: a scan that is NONE", x.scan(3), NONE);
        due("13: leaves the one before", x.truth(2), 2);
        x.scan(0);
        due("13: a scan of no rows", x.truth(0), NONE);
    }

    private static void promise14Chosen() {
        TruthScan x = new TruthScan();
        x.column(BOOL);
        x.add(0, 0, 1);
        x.add(0, 1, 2);
        x.miss(0, 1);
        x.add(0, 1, 996);
        x.literal(BOOL, 1);
        x.step(3, 0, 0, 0, 0);
        due("14: how many", x.scan(1000), 998);
        due("14: the first", x.chosen(0), 1);
        due("14: the second", x.chosen(1), 2);
        due("14: the third", x.chosen(2), 4);
        due("14: the last", x.chosen(997), 999);
        due("14: none behind it", x.chosen(998), NONE);
        for (int no : NO_INDEX) {
            due("14: none at " + no, x.chosen(no), NONE);
        }
        x.scan(1001);
        due("14: a scan that is NONE leaves them", x.chosen(997), 999);
        x.scan(2);
        due("14: a shorter scan", x.chosen(1), NONE);
        due("14: has its own", x.chosen(0), 1);
    }

    private static void promise15Known() {
        TruthScan x = new TruthScan();
        x.column(WHOLE);
        x.column(TEXT);
        x.step(0, 0, 0, 0, 0);
        due("15: no rows with values", x.known(0, 1, 0), false);
        due("15: still nothing known", x.can(), 3);
        due("15: no rows at all", x.known(0, 0, 0), true);
        due("15: neither", x.can(), 0);
        due("15: all missing", x.known(0, 5, 5), true);
        due("15: IS NULL", x.can(), 2);
        due("15: missing above rows", x.known(0, 5, 6), false);
        due("15: missing below 0", x.known(0, 5, -1), false);
        due("15: rows below 0", x.known(0, -1, 0), false);
        due("15: both below 0", x.known(0, -1, -1), false);
        due("15: rows above a million", x.known(0, 1000001, 1000001), false);
        due("15: rows far above", x.known(0, Integer.MAX_VALUE, 0), false);
        due("15: what was known stays", x.can(), 2);
        due("15: a million", x.known(0, 1000000, 1000000), true);
        x.miss(0, 3);
        due("15: rows without values", x.known(0, 5, 4), false);
        due("15: those without values", x.known(0, 5, 5), true);
        x.add(0, 7, 1);
        x.add(0, 5, 1);
        x.add(0, 9, 1);
        due("15: some", x.known(0, 5, 4), true);
        due("15: IS NULL or not", x.can(), 3);
        due("15: none", x.known(0, 5, 0), true);
        due("15: NOT NULL", x.can(), 1);
        x.clear(0);
        x.add(0, 100, 1);
        canDue("15: LEAST as it was then", x, WHOLE, 0, 3, 5, 3);
        canDue("15: not below LEAST", x, WHOLE, 0, 2, 5, 1);
        canDue("15: GREATEST as it was then", x, WHOLE, 0, 5, 9, 3);
        canDue("15: not above GREATEST", x, WHOLE, 0, 4, 9, 1);
        x.clear(0);
        due("15: no values now", x.known(0, 9, 8), false);
        canDue("15: and known as before", x, WHOLE, 0, 4, 9, 1);
        for (int no : NO_INDEX) {
            due("15: no column " + no, x.known(no, 1, 1), false);
        }
        due("15: no column 2", x.known(2, 1, 1), false);
        x.clear(0);
        x.add(0, 1, 1);
        x.add(0, 3, 1);
        x.known(0, 2, 0);
        x.dictionary(0);
        canDue("15: with a DICTIONARY", x, WHOLE, 0, 0, 2, 1);
        x.known(0, 2, 0);
        canDue("15: and no DICTIONARY then", x, WHOLE, 0, 0, 2, 3);
    }

    private static void promise16Dictionary() {
        TruthScan x = new TruthScan();
        x.column(WHOLE);
        x.add(0, 0, 1);
        x.add(0, 200, 2);
        due("16: nothing is known", x.dictionary(0), false);
        x.known(0, 10, 0);
        due("16: two values", x.dictionary(0), true);
        canDue("16: one of them", x, WHOLE, 0, 0, 200, 3);
        canDue("16: none of them", x, WHOLE, 0, 0, 100, 1);
        x.add(0, 201, 1);
        due("16: one above GREATEST", x.dictionary(0), false);
        x.clear(0);
        x.add(0, 100, 1);
        x.add(0, -1, 1);
        due("16: one below LEAST", x.dictionary(0), false);
        canDue("16: nothing of a refused one", x, WHOLE, 0, 0, 100, 1);
        x.clear(0);
        due("16: no rows, whatever was there", x.dictionary(0), false);
        x.miss(0, 4);
        due("16: no values", x.dictionary(0), false);
        canDue("16: the old one stays", x, WHOLE, 0, 0, 100, 1);
        for (int i = 0; i < 100; i++) {
            x.add(0, i, 2);
        }
        due("16: a hundred", x.dictionary(0), true);
        canDue("16: the new one", x, WHOLE, 0, 0, 99, 3);
        canDue("16: in place of the old one", x, WHOLE, 0, 0, 200, 1);
        x.add(0, 99, 1);
        due("16: a hundred once more", x.dictionary(0), true);
        x.add(0, 100, 1);
        due("16: a hundred and one", x.dictionary(0), false);
        canDue("16: the hundred stay", x, WHOLE, 0, 0, 100, 1);
        canDue("16: all of them", x, WHOLE, 0, 0, 99, 3);
        for (int no : NO_INDEX) {
            due("16: no column " + no, x.dictionary(no), false);
        }
        due("16: no column 1", x.dictionary(1), false);
        x.clear(0);
        x.known(0, 5, 5);
        x.add(0, 1, 1);
        due("16: no LEAST", x.dictionary(0), false);
        x.known(0, 5, 5);
        due("16: a LEAST of rows that have values", x.dictionary(0), true);
        x.add(0, 2, 999);
        x.known(0, 5, 0);
        due("16: a thousand rows of two values", x.dictionary(0), true);

        TruthScan y = new TruthScan();
        y.column(TEXT);
        putRow(y, 0, "b");
        putRow(y, 0, "d");
        putRow(y, 0, "b");
        y.known(0, 3, 0);
        due("16: texts", y.dictionary(0), true);
        textCanDue("16: a text in it", y, 0, "d", 3);
        textCanDue("16: a text not in it", y, 0, "c", 1);
        putRow(y, 0, "da");
        due("16: a text above GREATEST", y.dictionary(0), false);
    }

    private static void promise17Unknown() {
        TruthScan x = new TruthScan();
        x.column(WHOLE);
        x.column(WHOLE);
        x.add(0, 1, 1);
        x.add(1, 1, 1);
        x.known(0, 1, 0);
        x.known(1, 1, 0);
        x.dictionary(0);
        canDue("17: known", x, WHOLE, 0, 0, 1, 2);
        due("17: unknown", x.unknown(0), true);
        canDue("17: each", x, WHOLE, 0, 0, 1, 7);
        canDue("17: the other column stays known", x, WHOLE, 1, 0, 1, 2);
        due("17: no dictionary of it", x.dictionary(0), false);
        due("17: unknown already", x.unknown(0), true);
        for (int no : NO_INDEX) {
            due("17: no column " + no, x.unknown(no), false);
        }
        due("17: no column 2", x.unknown(2), false);
    }

    private static void promise18Nulls() {
        TruthScan x = new TruthScan();
        x.column(WHOLE);
        x.add(0, 1, 1);
        int[][] cases = {{0, 0, 0, 0}, {4, 0, 1, 2}, {4, 4, 2, 1}, {4, 3, 3, 3}};
        for (int kind = 0; kind < 2; kind++) {
            x.forget();
            x.unknown(0);
            x.step(kind, 0, 0, 0, 0);
            due("18: unknown column, kind " + kind, x.can(), 3);
            for (int[] c : cases) {
                x.known(0, c[0], c[1]);
                due("18: kind " + kind + " of " + c[0] + " and " + c[1], x.can(), c[2 + kind]);
            }
        }
    }

    private static void promise18Literals() {
        // By operator: what a column from 10 to 20 can be with 9, 10, 15, 20 and 21.
        int[][] wanted = {{1, 3, 3, 3, 1}, {2, 3, 3, 3, 2}, {1, 1, 3, 3, 2}, {1, 3, 3, 2, 2}, {2, 3, 3, 1, 1}, {2, 2, 3, 3, 1}};
        long[] literals = {9, 10, 15, 20, 21};
        TruthScan x = new TruthScan();
        x.column(WHOLE);
        x.add(0, 20, 1);
        x.add(0, 10, 1);
        for (int operator = 0; operator < 6; operator++) {
            x.known(0, 2, 0);
            for (int i = 0; i < literals.length; i++) {
                canDue("18: operator " + operator, x, WHOLE, 0, operator, literals[i], wanted[operator][i]);
            }
            x.known(0, 3, 1);
            canDue("18: with missing ones, operator " + operator, x, WHOLE, 0, operator, 9, wanted[operator][0] | 4);
            x.known(0, 3, 3);
            canDue("18: all missing, operator " + operator, x, WHOLE, 0, operator, 15, 4);
            x.known(0, 0, 0);
            canDue("18: no rows, operator " + operator, x, WHOLE, 0, operator, 15, 0);
        }
        // By operator: a column of 7 alone, with 6, 7 and 8.
        int[][] single = {{1, 2, 1}, {2, 1, 2}, {1, 1, 2}, {1, 2, 2}, {2, 1, 1}, {2, 2, 1}};
        x.clear(0);
        x.add(0, 7, 3);
        x.known(0, 3, 0);
        for (int operator = 0; operator < 6; operator++) {
            for (int i = 0; i < 3; i++) {
                canDue("18: of 7 alone, operator " + operator, x, WHOLE, 0, operator, 6 + i, single[operator][i]);
            }
        }
        x.clear(0);
        x.add(0, Long.MIN_VALUE, 1);
        x.add(0, Long.MAX_VALUE, 1);
        x.known(0, 2, 0);
        canDue("18: the whole range", x, WHOLE, 0, 0, 0, 3);
        canDue("18: from the least", x, WHOLE, 0, 5, Long.MIN_VALUE, 2);
        TruthScan y = new TruthScan();
        y.column(TEXT);
        putRow(y, 0, "b");
        putRow(y, 0, "\u00e9");
        y.known(0, 2, 0);
        textCanDue("18: a text between", y, 0, "bb", 3);
        textCanDue("18: a text below", y, 0, "azzz", 1);
        textCanDue("18: a text above", y, 0, "\u00e9\0", 1);
    }

    private static void promise18Dictionaries() {
        // By operator: a column of 10, 12 and 20, with 10, 11, 12, 15 and 20.
        int[][] wanted = {{3, 1, 3, 1, 3}, {3, 2, 3, 2, 3}, {1, 3, 3, 3, 3}, {3, 3, 3, 3, 2}, {3, 3, 3, 3, 1}, {2, 3, 3, 3, 3}};
        long[] literals = {10, 11, 12, 15, 20};
        TruthScan x = new TruthScan();
        x.column(WHOLE);
        x.add(0, 20, 1);
        x.add(0, 12, 1);
        x.add(0, 10, 1);
        x.known(0, 3, 0);
        x.dictionary(0);
        for (int operator = 0; operator < 6; operator++) {
            for (int i = 0; i < literals.length; i++) {
                canDue("18: dictionary, operator " + operator, x, WHOLE, 0, operator, literals[i], wanted[operator][i]);
            }
        }
        // The dictionary may be narrower than LEAST and GREATEST, and then it counts.
        x.clear(0);
        x.add(0, 12, 1);
        x.dictionary(0);
        canDue("18: 12 alone, = 12", x, WHOLE, 0, 0, 12, 2);
        canDue("18: 12 alone, < 12", x, WHOLE, 0, 2, 12, 1);
        canDue("18: 12 alone, > 11", x, WHOLE, 0, 4, 11, 2);
        canDue("18: 12 alone, <> 10", x, WHOLE, 0, 1, 10, 2);
    }

    private static void promise18In() {
        TruthScan x = new TruthScan();
        x.column(WHOLE);
        x.add(0, 10, 1);
        x.add(0, 20, 1);
        inDue("18: IN of an unknown column", x, 7, 10);
        x.known(0, 2, 0);
        inDue("18: IN, none may be", x, 1, 9, 21);
        inDue("18: IN, one may be", x, 3, 9, 15);
        inDue("18: IN, LEAST and GREATEST", x, 3, 10, 20);
        x.known(0, 2, 1);
        inDue("18: IN with missing ones", x, 5, 9);
        x.known(0, 2, 2);
        inDue("18: IN, all missing", x, 4, 10);
        x.known(0, 2, 0);
        x.dictionary(0);
        inDue("18: IN with a dictionary, both", x, 2, 20, 10);
        inDue("18: IN with a dictionary, the first", x, 3, 5, 10);
        inDue("18: IN with a dictionary, the second", x, 3, 20, 5);
        inDue("18: IN with a dictionary, none", x, 1, 5, 15);
        x.clear(0);
        x.add(0, 7, 1);
        x.known(0, 2, 0);
        inDue("18: IN of one value, it", x, 2, 6, 7);
        inDue("18: IN of one value, others", x, 1, 6, 8);
    }

    private static void promise18Columns() {
        // LEAST and GREATEST of both, then what each operator can be.
        long[][] cases = {
            {1, 5, 6, 9, 1, 2, 2, 2, 1, 1},
            {1, 5, 5, 9, 3, 3, 3, 2, 1, 3},
            {1, 5, 3, 9, 3, 3, 3, 3, 3, 3},
            {1, 9, 3, 5, 3, 3, 3, 3, 3, 3},
            {5, 9, 1, 5, 3, 3, 1, 3, 3, 2},
            {6, 9, 1, 5, 1, 2, 1, 1, 2, 2},
            {4, 4, 4, 4, 2, 1, 1, 2, 1, 2},
            {4, 4, 4, 5, 3, 3, 3, 2, 1, 3},
            {4, 5, 4, 4, 3, 3, 1, 3, 3, 2},
            {4, 4, 3, 5, 3, 3, 3, 3, 3, 3},
        };
        for (long[] c : cases) {
            TruthScan x = new TruthScan();
            x.column(WHOLE);
            x.column(WHOLE);
            x.add(0, c[0], 1);
            x.add(0, c[1], 1);
            x.add(1, c[2], 1);
            x.add(1, c[3], 1);
            for (int operator = 0; operator < 6; operator++) {
                String what = "18: columns " + c[0] + ".." + c[1] + ", " + c[2] + ".." + c[3] + " by " + operator;
                int want = (int) c[4 + operator];
                x.forget();
                x.step(4, 0, operator, 1, 0);
                x.known(0, 2, 0);
                x.unknown(1);
                due(what + ", the second unknown", x.can(), 7);
                x.known(1, 2, 0);
                due(what, x.can(), want);
                x.dictionary(0);
                x.dictionary(1);
                due(what + ", dictionaries", x.can(), want);
                x.known(1, 2, 1);
                due(what + ", missing in the second", x.can(), want | 4);
                x.known(0, 2, 2);
                due(what + ", all missing in the first", x.can(), 4);
                x.known(1, 0, 0);
                x.known(0, 2, 0);
                due(what + ", no rows in the second", x.can(), 0);
                x.unknown(0);
                due(what + ", the first unknown", x.can(), 7);
            }
        }
        TruthScan x = new TruthScan();
        x.column(WHOLE);
        x.add(0, 1, 1);
        x.add(0, 2, 1);
        x.known(0, 2, 0);
        x.dictionary(0);
        x.step(4, 0, 0, 0, 0);
        due("18: a column with itself, as if each value met each", x.can(), 3);
    }

    private static void promise18Combined() {
        for (int a = 0; a < 8; a++) {
            TruthScan x = new TruthScan();
            stepThatCanBe(x, 0, a);
            due("18: the set " + a, x.can(), a);
            x.step(5, 0, 0, 0, 0);
            due("18: NOT of " + a, x.can(), (a & 1) << 1 | (a & 2) >> 1 | a & 4);
            for (int b = 0; b < 8; b++) {
                for (int kind = 6; kind < 8; kind++) {
                    TruthScan y = new TruthScan();
                    stepThatCanBe(y, 0, a);
                    stepThatCanBe(y, 1, b);
                    y.step(kind, 0, 0, 0, 0);
                    due("18: kind " + kind + " of " + a + " and " + b, y.can(), combined(kind, a, b));
                }
            }
        }
    }

    /** The document's words of AND and OR: what decides AND is FALSE, what decides OR is TRUE. */
    private static int combined(int kind, int a, int b) {
        int deciding = kind == 6 ? 1 : 2;
        int other = 3 - deciding;
        int set = 0;
        if ((a & deciding) != 0 || (b & deciding) != 0) {
            set |= deciding;
        }
        if ((a & other) != 0 && (b & other) != 0) {
            set |= other;
        }
        if ((a & 4) != 0 && (b & (4 | other)) != 0 || (b & 4) != 0 && (a & (4 | other)) != 0) {
            set |= 4;
        }
        return set;
    }

    /** Makes a column whose comparison with 5 can be just the given truths. */
    private static void stepThatCanBe(TruthScan x, int column, int set) {
        x.column(WHOLE);
        int literal = x.literal(WHOLE, 5);
        boolean values = (set & 3) != 0;
        if ((set & 2) != 0) {
            x.add(column, 5, 1);
        }
        if ((set & 1) != 0) {
            x.add(column, 6, 1);
        }
        int missing = (set & 4) != 0 ? 1 : 0;
        due("18: known for the set " + set, x.known(column, missing + (values ? 1 : 0), missing), true);
        x.step(3, column, 0, literal, 0);
    }

    private static void promise18NoCondition() {
        TruthScan x = new TruthScan();
        x.column(WHOLE);
        due("18: no steps", x.can(), 2);
        x.step(7, 0, 0, 0, 0);
        due("18: OR of nothing", x.can(), NONE);
        x.forget();
        x.step(0, 0, 0, 0, 0);
        x.step(0, 0, 0, 0, 0);
        due("18: two wait", x.can(), NONE);
        x.step(7, 0, 0, 0, 0);
        due("18: one waits, whatever rows there are", x.can(), 3);
    }

    private static void addTruth(TruthScan x, int column, int truth) {
        if (truth == 2) {
            x.miss(column, 1);
        } else {
            x.add(column, truth, 1);
        }
    }

    private static void truthsDue(String what, TruthScan x, int[] wanted) {
        int trues = 0;
        for (int want : wanted) {
            trues += want == 1 ? 1 : 0;
        }
        due(what + ", scan", x.scan(wanted.length), trues);
        for (int row = 0; row < wanted.length; row++) {
            due(what + ", row " + row, x.truth(row), wanted[row]);
        }
    }

    private static void canDue(String what, TruthScan x, int type, int column, int operator, long value, int want) {
        x.forget();
        x.step(3, column, operator, x.literal(type, value), 0);
        due(what + " with " + value, x.can(), want);
    }

    private static void textCanDue(String what, TruthScan x, int column, String text, int want) {
        x.forget();
        put(x, text);
        x.step(3, column, 0, x.literalText(text.length()), 0);
        due(what, x.can(), want);
    }

    private static void inDue(String what, TruthScan x, int want, long... values) {
        x.forget();
        for (long value : values) {
            x.literal(WHOLE, value);
        }
        x.step(2, 0, 0, 0, values.length);
        due(what, x.can(), want);
    }

    private static void feedMany(TruthScan x, int times) {
        for (int i = 0; i < times; i++) {
            due("2: room for feed " + i, x.feed(i, i, i, i, i), true);
        }
    }

    private static void putRow(TruthScan x, int column, String text) {
        put(x, text);
        due("5: the row " + text, x.addText(column, text.length()), true);
    }

    /** Feeds a text of at most twenty characters. */
    private static void put(TruthScan x, String text) {
        byte[] bytes = text.getBytes(StandardCharsets.ISO_8859_1);
        int[] fed = new int[5];
        for (int i = 0; i < bytes.length; i++) {
            fed[i / 4] |= (bytes[i] & 255) << (24 - i % 4 * 8);
        }
        x.feed(fed[0], fed[1], fed[2], fed[3], fed[4]);
    }
}
