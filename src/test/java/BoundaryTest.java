import java.nio.charset.StandardCharsets;
import java.util.Arrays;

/**
 * Each sentence of the document that names a boundary case, with a test of its own: the last that is
 * taken and the first that is not, what is empty and what is full, and the ends of int and long.
 * RefusalTest says what refused calls leave as it was.
 */
public final class BoundaryTest {
    private static final int NONE = -1;
    private static final int BOOL = 0;
    private static final int WHOLE = 1;
    private static final int TEXT = 2;
    private static final int IS_NULL = 0;
    private static final int NOT_NULL = 1;
    private static final int IN = 2;
    private static final int WITH_LITERAL = 3;
    private static final int WITH_COLUMN = 4;
    private static final int NOT = 5;
    private static final int AND = 6;
    private static final int OR = 7;
    private static final int EQUAL = 0;
    private static final int UNEQUAL = 1;
    private static final int BELOW = 2;
    private static final int AT_MOST = 3;
    private static final int ABOVE = 4;
    private static final int AT_LEAST = 5;
    private static final int MIN = Integer.MIN_VALUE;
    private static final int MAX = Integer.MAX_VALUE;

    private static String sentence = "";
    private static int checks = 0;
    private static int wrong = 0;

    public static void main(String[] args) {
        sentencesOfTerms();
        sentencesOfConditions();
        sentencesOfKnowledge();
        sentencesOfColumns();
        sentencesOfSteps();
        sentencesOfScans();
        sentencesOfLearning();
        System.out.println(wrong == 0 ? "all sentences hold" : wrong + " answers are not as due");
        if (wrong != 0) {
            System.exit(1);
        }
    }

    private static void sentencesOfTerms() {
        of("An object is used for at most 512 calls after it has been made", BoundaryTest::lastCall);
        of("what later calls answer is free", BoundaryTest::laterCallsAnswer);
        of("COLUMNS, at most 16, numbered from 0", BoundaryTest::sixteenColumns);
        of("have a TYPE: 0 .. 1 .. 2", BoundaryTest::threeTypes);
        of("0 bool (0, 1)", BoundaryTest::twoBools);
        of("1 whole (64 bits)", BoundaryTest::wholeOnes);
        of("2 text (0 .. 255 bytes)", BoundaryTest::textLengths);
        of("ROWS of a column, at most 1000", BoundaryTest::thousandRows);
        of("have a value each or none", BoundaryTest::valueOrNone);
        of("texts of a column have at most 8000 bytes together", BoundaryTest::eightThousandBytes);
        of("Texts are in the order of their first bytes that differ (0 .. 255)", BoundaryTest::textsByFirstDifference);
        of("one that another begins with is less", BoundaryTest::beginningIsLess);
        of("false is less than true", BoundaryTest::falseIsLess);
        of("THE TAPE takes bytes, twenty a call, at most 1000", BoundaryTest::thousandBytesOfTape);
        of("a text is cut off it", BoundaryTest::cutOffTheTape);
        of("LITERALS, at most 64, numbered from 0", BoundaryTest::sixtyFourLiterals);
        of("STEPS, at most 64, numbered from 0", BoundaryTest::sixtyFourSteps);
    }

    private static void sentencesOfConditions() {
        of("each of the KINDS 0 to 4 is one more that waits", BoundaryTest::oneMoreWaits);
        of("5 takes one and leaves one", BoundaryTest::notTakesOne);
        of("6 and 7 take two and leave one", BoundaryTest::andOrTakeTwo);
        of("at last one waits", BoundaryTest::oneWaitsAtLast);
        of("or there are no steps (that is true always)", BoundaryTest::noStepsAreTrue);
        of("KINDS: 0 .. 7", BoundaryTest::eightKinds);
        of("by an OPERATOR: 0 .. 5", BoundaryTest::sixOperators);
        of("its value is the same as one of some literals, one behind the other", BoundaryTest::literalsInARow);
        of("2, 3 and 4 are UNKNOWN where a value is missing", BoundaryTest::unknownWhereMissing);
        of("NOT of UNKNOWN is UNKNOWN", BoundaryTest::notOfTruths);
        of("AND is FALSE if one of both is, else UNKNOWN if one of both is, else TRUE", BoundaryTest::andOfTruths);
        of("OR is TRUE if one of both is, else UNKNOWN if one of both is, else FALSE", BoundaryTest::orOfTruths);
    }

    private static void sentencesOfKnowledge() {
        of("of a column of which nothing is known each CAN be", BoundaryTest::nothingKnownIsEach);
        of("IS NULL CAN be TRUE if some rows have none, FALSE if some have one", BoundaryTest::isNullCanBe);
        of("NOT NULL the other way round", BoundaryTest::notNullCanBe);
        of("2, 3, 4 CAN be UNKNOWN if some rows (of one of both columns) have none", BoundaryTest::canBeUnknown);
        of("TRUE, or FALSE, only if some rows (of each column) have a value", BoundaryTest::onlyWithValues);
        of("3: one not below the LEAST nor above the GREATEST one", BoundaryTest::fromLeastToGreatest);
        of("3: whole numbers from end to end", BoundaryTest::fromEndToEnd);
        of("3: LEAST and GREATEST the same", BoundaryTest::leastIsGreatest);
        of("3: as if between both that aren't the same there were others", BoundaryTest::othersBetween);
        of("3: of texts and whole ones alike", BoundaryTest::textsFromLeastToGreatest);
        of("3: bools have no others", BoundaryTest::boolsFromLeastToGreatest);
        of("3: some value of the DICTIONARY, if there is one", BoundaryTest::valuesOfDictionary);
        of("2: TRUE if one of the literals is one that may be", BoundaryTest::inCanBeTrue);
        of("2: FALSE if a value of the DICTIONARY is none of them", BoundaryTest::inCanBeFalseByDictionary);
        of("2: or LEAST and GREATEST aren't the same, or are none of them", BoundaryTest::inCanBeFalseByBounds);
        of("4: = TRUE if neither GREATEST is below the other's LEAST", BoundaryTest::columnsEqual);
        of("4: < if the first one's LEAST is below the second one's GREATEST, and so on", BoundaryTest::columnsOrdered);
        of("4: <> unless all four are the same", BoundaryTest::columnsUnequal);
        of("4: dictionaries mean nothing", BoundaryTest::columnsWithDictionaries);
        of("NOT CAN be TRUE where it CAN be FALSE, and so on", BoundaryTest::notCanBe);
        of("AND CAN be TRUE if both CAN; FALSE if one of both CAN; UNKNOWN if ..", BoundaryTest::andCanBe);
        of("OR CAN be FALSE if both CAN; TRUE if one of both CAN; UNKNOWN if ..", BoundaryTest::orCanBe);
    }

    private static void sentencesOfColumns() {
        of("1: No columns, literals, steps, an empty tape", BoundaryTest::newObject);
        of("2: four in each number, the highest first", BoundaryTest::highestByteFirst);
        of("2: false if it hasn't room", BoundaryTest::noRoomOnTape);
        of("3: NONE if there are 16, or there is no such TYPE", BoundaryTest::refusedColumn);
        of("3: Nothing is known of it", BoundaryTest::newColumnIsUnknown);
        of("4: n times; n (1 ..)", BoundaryTest::addManyTimes);
        of("4: or it has 1000 rows then", BoundaryTest::addToThousand);
        of("4: (not of texts)", BoundaryTest::addNotOfTexts);
        of("4: there is no such column, value", BoundaryTest::addNoSuch);
        of("5: the first n bytes of the tape, which is empty then", BoundaryTest::firstBytesOfTape);
        of("5: false if there is no such column of texts", BoundaryTest::addTextNoSuchColumn);
        of("5: it has 1000", BoundaryTest::addTextToThousand);
        of("5: or the text is longer than 255", BoundaryTest::addTextTooLong);
        of("5: or than there is room for", BoundaryTest::addTextNoRoom);
        of("5: the tape stays, if there are not so many, or n is below 0", BoundaryTest::addTextTapeStays);
        of("6: A row without a value, n times; false, and none, likewise", BoundaryTest::missManyTimes);
        of("7: A column has no rows", BoundaryTest::clearedColumn);
        of("7: nor texts that take room", BoundaryTest::clearedTexts);
        of("7: false if there is none such", BoundaryTest::clearNoSuch);
    }

    private static void sentencesOfSteps() {
        of("8: NONE if there are 64", BoundaryTest::literalFull);
        of("8: or no such TYPE (not texts) or value", BoundaryTest::literalNoSuch);
        of("9: as with addText", BoundaryTest::literalTextLikeAddText);
        of("9: NONE if there are 64", BoundaryTest::literalTextFull);
        of("10: Column and other are columns", BoundaryTest::stepColumns);
        of("10: of 2 and 3 the first literal, many how many literals (of 2)", BoundaryTest::stepLiterals);
        of("10: What a KIND hasn't means nothing", BoundaryTest::stepMeaningless);
        of("10: NONE if there are 64", BoundaryTest::stepFull);
        of("10: or types differ", BoundaryTest::stepTypesDiffer);
        of("11: There are no steps and literals", BoundaryTest::forgotten);
    }

    private static void sentencesOfScans() {
        of("12: rows 0 .. n - 1", BoundaryTest::scanRows);
        of("12: NONE if the steps are no CONDITION", BoundaryTest::scanNoCondition);
        of("12: n isn't 0 .. 1000", BoundaryTest::scanBounds);
        of("12: or a column that a step has has fewer rows", BoundaryTest::scanFewerRows);
        of("13: in the latest scan that wasn't NONE", BoundaryTest::truthOfLatestScan);
        of("13: NONE if there is none such", BoundaryTest::truthNoSuch);
        of("14: The k-th TRUE row (from 0), in order", BoundaryTest::chosenInOrder);
        of("14: NONE if there is none such", BoundaryTest::chosenNoSuch);
    }

    private static void sentencesOfLearning() {
        of("15: LEAST and GREATEST are those of its rows now, if these have values", BoundaryTest::knownOfRowsNow);
        of("15: no DICTIONARY", BoundaryTest::knownWithoutDictionary);
        of("15: False if there is no such column", BoundaryTest::knownNoSuchColumn);
        of("15: missing isn't 0 .. rows", BoundaryTest::knownMissing);
        of("15: rows is above 1000000", BoundaryTest::knownMillion);
        of("15: or its rows have no value and missing is less than rows", BoundaryTest::knownWithoutValues);
        of("16: The values of a column's rows now (without those that are there already)", BoundaryTest::dictionaryOfRowsNow);
        of("16: False if there is none such, nothing is KNOWN of it", BoundaryTest::dictionaryNoSuch);
        of("16: or no LEAST", BoundaryTest::dictionaryWithoutLeast);
        of("16: its rows have no values", BoundaryTest::dictionaryWithoutValues);
        of("16: more than 100 different ones", BoundaryTest::dictionaryOfHundred);
        of("16: or one below LEAST or above GREATEST", BoundaryTest::dictionaryBounds);
        of("17: Nothing is known of a column", BoundaryTest::unknownAgain);
        of("17: false if there is none such", BoundaryTest::unknownNoSuch);
        of("18: 1 FALSE, 2 TRUE, 4 UNKNOWN, added", BoundaryTest::canAdded);
        of("18: NONE if the steps are no CONDITION", BoundaryTest::canNoCondition);
    }

    private static void of(String words, Runnable test) {
        sentence = words;
        int before = checks;
        test.run();
        if (checks == before) {
            due("the test of this sentence looks at something", false, true);
        }
    }

    private static void due(String what, long got, long want) {
        checks++;
        if (got != want) {
            wrong++;
            System.out.println("\"" + sentence + "\": " + what + " answered " + got + ", due is " + want);
        }
    }

    private static void due(String what, boolean got, boolean want) {
        due(what, got ? 1 : 0, want ? 1 : 0);
    }

    // Terms

    private static void lastCall() {
        TruthScan x = new TruthScan();
        x.column(WHOLE);
        for (int call = 2; call <= 511; call++) {
            due("add, call " + call, x.add(0, call, 1), true);
        }
        due("scan, call 512", x.scan(1000), 1000);

        TruthScan y = new TruthScan();
        y.column(TEXT);
        for (int call = 2; call <= 509; call++) {
            due("addText, call " + call, y.addText(0, 0), true);
        }
        y.step(NOT_NULL, 0, 0, 0, 0);
        due("scan, call 511", y.scan(508), 508);
        due("chosen, call 512", y.chosen(507), 507);
    }

    /** But none throws, with the ends of int and the document's bounds as arguments, while the object fills up. */
    private static void laterCallsAnswer() {
        int[] ends = {0, 1, -1, 2, 3, 5, 8, 15, 16, 63, 64, 255, 256, 999, 1000, 1001, 1000000, 1000001, MIN, MAX};
        TruthScan x = new TruthScan();
        for (int round = 0; round < 3; round++) {
            for (int a : ends) {
                for (int b : ends) {
                    anyCalls(x, a, b);
                }
                x.column(a);
                x.forget();
            }
        }
        due("each has answered", true, true);
    }

    private static void anyCalls(TruthScan x, int a, int b) {
        x.feed(a, b, a, b, a);
        x.addText(a, b);
        x.feed(a, b, a, b, a);
        x.literalText(a);
        x.literal(a, b);
        x.literal(a, b == MIN ? Long.MIN_VALUE : b == MAX ? Long.MAX_VALUE : b);
        x.known(a, b, a);
        x.known(a, b, b);
        x.dictionary(a);
        for (int kind = -1; kind < 9; kind++) {
            x.step(kind, a, b, a, b);
            x.step(kind, b, a, b, a);
            x.scan(a);
            x.can();
            x.truth(b);
            x.chosen(b);
            x.step(kind, 0, 0, a, b);
        }
        x.add(a, b, 1);
        x.add(a, 1, b);
        x.miss(a, b);
        if (b == MAX) {
            x.unknown(a);
            x.clear(a);
        }
    }

    private static void sixteenColumns() {
        TruthScan x = new TruthScan();
        for (int i = 0; i < 16; i++) {
            due("no column " + i + " yet", x.miss(i, 1), false);
            due("column " + i, x.column(i % 3), i);
            due("now there is", x.miss(i, 1), true);
        }
        for (int type = 0; type < 3; type++) {
            due("a seventeenth of type " + type, x.column(type), NONE);
        }
        due("no column 16", x.miss(16, 1), false);
        due("the first is there", x.clear(0), true);
        due("the last is there", x.clear(15), true);
        due("a step with the last", x.step(IS_NULL, 15, 0, 0, 0), 0);
        due("a step with the first and the last", x.step(WITH_COLUMN, 0, 0, 15, 0), 1);
        due("the last is still of its own type", x.step(WITH_COLUMN, 15, 0, 14, 0), NONE);
    }

    private static void threeTypes() {
        TruthScan x = new TruthScan();
        for (int type : new int[] {-1, 3, 4, MIN, MIN + 1, MAX - 1, MAX}) {
            due("column of type " + type, x.column(type), NONE);
            due("literal of type " + type, x.literal(type, 0), NONE);
        }
        due("column of type 0", x.column(0), 0);
        due("column of type 2", x.column(2), 1);
        due("column of type 1", x.column(1), 2);
        due("literal of type 0", x.literal(0, 0), 0);
        due("literal of type 1", x.literal(1, 0), 1);
        due("literal of type 2", x.literal(2, 0), NONE);
    }

    private static void twoBools() {
        TruthScan x = new TruthScan();
        x.column(BOOL);
        long[] others = {-1, 2, 255, 256, 1L << 32, (1L << 32) + 1, -1L << 32, MIN, MAX,
            Long.MIN_VALUE, Long.MIN_VALUE + 1, Long.MAX_VALUE};
        for (long value : others) {
            due("a row of " + value, x.add(0, value, 1), false);
            due("a literal of " + value, x.literal(BOOL, value), NONE);
        }
        due("a row of 0", x.add(0, 0, 1), true);
        due("a row of 1", x.add(0, 1, 1), true);
        due("a literal of 0", x.literal(BOOL, 0), 0);
        due("a literal of 1", x.literal(BOOL, 1), 1);
        x.step(WITH_LITERAL, 0, EQUAL, 0, 0);
        truthsDue("= 0", x, "10");
        x.step(NOT, 0, 0, 0, 0);
        truthsDue("NOT = 0", x, "01");
        due("no more rows", x.scan(3), NONE);
    }

    private static void wholeOnes() {
        long[] ordered = {Long.MIN_VALUE, Long.MIN_VALUE + 1, MIN - 1L, MIN, -256, -1, 0, 1, 255, MAX, MAX + 1L,
            (1L << 32) - 1, 1L << 32, (1L << 32) + 1, Long.MAX_VALUE - 1, Long.MAX_VALUE};
        TruthScan x = new TruthScan();
        x.column(WHOLE);
        for (long value : ordered) {
            due("a row of " + value, x.add(0, value, 1), true);
        }
        for (int i = 0; i < ordered.length; i++) {
            x.forget();
            due("a literal of " + ordered[i], x.literal(WHOLE, ordered[i]), 0);
            due("IN", x.step(IN, 0, 0, 0, 1), 0);
            due("the same as " + ordered[i], x.scan(ordered.length), 1);
            due("at its row", x.chosen(0), i);
            compared(x, 0, BELOW, ordered[i]);
            due("below " + ordered[i], x.scan(ordered.length), i);
            compared(x, 0, ABOVE, ordered[i]);
            due("above " + ordered[i], x.scan(ordered.length), ordered.length - 1 - i);
        }
    }

    private static void textLengths() {
        TruthScan x = new TruthScan();
        x.column(TEXT);
        for (int n : new int[] {0, 1, 254, 255}) {
            feedBytes(x, text(n));
            due("a row of " + n, x.addText(0, n), true);
            feedBytes(x, text(n));
            due("a literal of " + n, x.literalText(n) >= 0, true);
        }
        for (int n : new int[] {256, 257, 260}) {
            feedBytes(x, text(n));
            due("a row of " + n, x.addText(0, n), false);
            feedBytes(x, text(n));
            due("a literal of " + n, x.literalText(n), NONE);
        }
        due("four literals in all", x.literal(WHOLE, 0), 4);
        for (int i = 0; i < 4; i++) {
            x.step(WITH_LITERAL, 0, EQUAL, i, 0);
        }
        x.step(OR, 0, 0, 0, 0);
        x.step(OR, 0, 0, 0, 0);
        x.step(OR, 0, 0, 0, 0);
        truthsDue("each row is one of the literals", x, "1111");
        due("and there is no other row", x.scan(5), NONE);
    }

    private static void thousandRows() {
        TruthScan x = new TruthScan();
        x.column(WHOLE);
        x.column(TEXT);
        x.column(BOOL);
        due("999 values", x.add(0, 1, 999), true);
        due("the thousandth", x.add(0, 2, 1), true);
        due("one more value", x.add(0, 3, 1), false);
        due("one more without", x.miss(0, 1), false);
        due("999 without", x.miss(1, 999), true);
        due("a text as the thousandth", x.addText(1, 0), true);
        due("one more text", x.addText(1, 0), false);
        due("one more without a text", x.miss(1, 1), false);
        due("a thousand at once", x.add(2, 1, 1000), true);
        due("one more bool", x.add(2, 1, 1), false);
        compared(x, 0, EQUAL, 2);
        due("the thousandth alone is 2", x.scan(1000), 1);
        due("at row 999", x.chosen(0), 999);
        x.forget();
        x.step(NOT_NULL, 1, 0, 0, 0);
        due("the thousandth alone has a text", x.scan(1000), 1);
        due("at row 999 too", x.chosen(0), 999);
        x.forget();
        x.step(NOT_NULL, 2, 0, 0, 0);
        due("all the bools", x.scan(1000), 1000);
    }

    private static void valueOrNone() {
        TruthScan x = new TruthScan();
        x.column(BOOL);
        x.column(WHOLE);
        x.column(TEXT);
        for (int column = 0; column < 3; column++) {
            x.miss(column, 1);
            if (column < 2) {
                x.add(column, 0, 1);
            } else {
                x.addText(column, 0);
            }
            x.forget();
            x.step(IS_NULL, column, 0, 0, 0);
            truthsDue("none, and the least that may be, IS NULL " + column, x, "10");
            x.forget();
            x.step(NOT_NULL, column, 0, 0, 0);
            truthsDue("none, and the least that may be, NOT NULL " + column, x, "01");
        }
        x.forget();
        x.literalText(0);
        x.step(WITH_LITERAL, 2, EQUAL, 0, 0);
        truthsDue("an empty text is a value", x, "21");
    }

    private static void eightThousandBytes() {
        eightThousandBytes(false);
    }

    private static void eightThousandBytes(boolean clearedBefore) {
        TruthScan x = new TruthScan();
        x.column(TEXT);
        x.column(TEXT);
        if (clearedBefore) {
            feedBytes(x, text(20));
            x.addText(0, 20);
            x.clear(0);
        }
        for (int i = 0; i < 33; i++) {
            feedBytes(x, text(240));
            due("240 bytes more than " + 240 * i, x.addText(0, 240), true);
        }
        feedBytes(x, text(81));
        due("81 above 7920", x.addText(0, 81), false);
        feedBytes(x, text(79));
        due("79 above 7920", x.addText(0, 79), true);
        feedBytes(x, text(20));
        due("2 above 7999", x.addText(0, 2), false);
        feedBytes(x, text(20));
        due("1 above 7999", x.addText(0, 1), true);
        feedBytes(x, text(20));
        due("1 above 8000", x.addText(0, 1), false);
        due("0 above 8000", x.addText(0, 0), true);
        due("none above 8000", x.miss(0, 1), true);
        feedBytes(x, text(20));
        due("another column has its own", x.addText(1, 20), true);
        x.step(NOT_NULL, 0, 0, 0, 0);
        due("36 texts", x.scan(37), 36);
        due("and no more rows", x.scan(38), NONE);
    }

    private static void textsByFirstDifference() {
        byte[][] ordered = new byte[256][];
        for (int i = 0; i < 256; i++) {
            ordered[i] = new byte[] {(byte) i};
        }
        orderDue("a byte", ordered[0], ordered[1]);
        orderDue("a byte", ordered[127], ordered[128]);
        orderDue("a byte", ordered[0], ordered[255]);
        orderDue("a byte", ordered[254], ordered[255]);
        orderDue("a byte", ordered[1], ordered[129]);
        for (int i = 0; i + 1 < 256; i += 15) {
            orderDue("the bytes " + i + " and one more", ordered[i], ordered[i + 1]);
        }
        byte[] longest = text(255);
        byte[] lastMore = text(255);
        lastMore[254]++;
        orderDue("the last of 255", longest, lastMore);
        byte[] firstMore = text(255);
        firstMore[0]++;
        firstMore[1] = 0;
        orderDue("the first, whatever comes behind", longest, firstMore);
        orderDue("the first, whichever is longer", longest, new byte[] {(byte) (longest[0] + 1)});
        orderDue("the second, whichever is longer", new byte[] {1, 1, 1}, new byte[] {1, 2});
    }

    private static void beginningIsLess() {
        orderDue("nothing and a byte 0", new byte[0], new byte[] {0});
        orderDue("nothing and a byte 255", new byte[0], new byte[] {-1});
        orderDue("nothing and 255 bytes", new byte[0], text(255));
        orderDue("one 0 and two", new byte[] {0}, new byte[] {0, 0});
        orderDue("254 and 255", text(254), text(255));
    }

    private static void falseIsLess() {
        // By operator: false with false, false with true, true with false, true with true.
        String[] wanted = {"1001", "0110", "0100", "1101", "0010", "1011"};
        for (int operator = 0; operator < 6; operator++) {
            TruthScan x = new TruthScan();
            x.column(BOOL);
            x.column(BOOL);
            x.add(0, 0, 2);
            x.add(0, 1, 2);
            for (int i = 0; i < 4; i++) {
                x.add(1, i % 2, 1);
            }
            x.step(WITH_COLUMN, 0, operator, 1, 0);
            truthsDue("by operator " + operator, x, wanted[operator]);
        }
    }

    private static void thousandBytesOfTape() {
        TruthScan x = new TruthScan();
        for (int i = 0; i < 50; i++) {
            due("no byte " + (20 * i + 1) + " yet", x.literalText(20 * i + 1), NONE);
            due("feed " + i, x.feed(i, i, i, i, i), true);
        }
        due("feed 50", x.feed(0, 0, 0, 0, 0), false);
        due("1001 are not there", x.literalText(1001), NONE);
        due("1000 are there, but too long", x.literalText(1000), NONE);
        due("and were cut off", x.literalText(1), NONE);
        due("no literal came of it", x.literal(WHOLE, 0), 0);
    }

    private static void cutOffTheTape() {
        TruthScan x = new TruthScan();
        x.column(TEXT);
        due("nothing off an empty tape", x.addText(0, 0), true);
        due("no byte off an empty tape", x.addText(0, 1), false);
        feedBytes(x, text(20));
        due("all twenty", x.addText(0, 20), true);
        due("none is left", x.addText(0, 1), false);
        feedBytes(x, text(20));
        due("none of twenty", x.addText(0, 0), true);
        due("even so none is left", x.addText(0, 1), false);
        feedBytes(x, text(20));
        due("one of twenty", x.literalText(1), 0);
        due("then none is left either", x.literalText(1), NONE);
    }

    private static void sixtyFourLiterals() {
        TruthScan x = new TruthScan();
        x.column(WHOLE);
        x.add(0, 0, 1);
        x.add(0, 63, 1);
        for (int i = 0; i < 64; i++) {
            due("no literal " + i + " yet", x.step(WITH_LITERAL, 0, EQUAL, i, 0), NONE);
            due("literal " + i, x.literal(WHOLE, i), i);
        }
        due("literal 64", x.literal(WHOLE, 64), NONE);
        due("nor as a text", x.literalText(0), NONE);
        due("no step with it", x.step(WITH_LITERAL, 0, EQUAL, 64, 0), NONE);
        due("the first one", x.step(WITH_LITERAL, 0, EQUAL, 0, 0), 0);
        truthsDue("= the first one", x, "10");
        due("the last one", x.step(WITH_LITERAL, 0, EQUAL, 63, 0), 1);
        x.step(OR, 0, 0, 0, 0);
        truthsDue("= the first or the last one", x, "11");
    }

    private static void sixtyFourSteps() {
        TruthScan x = new TruthScan();
        x.column(BOOL);
        x.add(0, 1, 1);
        x.miss(0, 1);
        due("step 0", x.step(NOT_NULL, 0, 0, 0, 0), 0);
        for (int i = 1; i < 64; i++) {
            due("step " + i, x.step(NOT, 0, 0, 0, 0), i);
            due("NOT " + i + " times", x.scan(2) * 10 + x.truth(0), i % 2 == 0 ? 11 : 10);
        }
        due("step 64", x.step(NOT, 0, 0, 0, 0), NONE);
        truthsDue("63 times NOT", x, "01");
        due("63 times NOT can be", x.can(), 3);
    }

    // Conditions

    private static void oneMoreWaits() {
        for (int kind = IS_NULL; kind <= WITH_COLUMN; kind++) {
            TruthScan x = new TruthScan();
            x.column(WHOLE);
            x.literal(WHOLE, 1);
            x.step(kind, 0, EQUAL, 0, 1);
            due("one of kind " + kind, x.scan(0), 0);
            x.step(kind, 0, EQUAL, 0, 1);
            due("two of kind " + kind, x.scan(0), NONE);
            x.step(AND, 0, 0, 0, 0);
            due("AND of both", x.scan(0), 0);
        }
    }

    private static void notTakesOne() {
        conditionDue("5", false);
        conditionDue("05", true);
        conditionDue("055", true);
        conditionDue("50", false);
        conditionDue("005", false);
        conditionDue("0056", true);
        conditionDue("0506", true);
        conditionDue("0065", true);
    }

    private static void andOrTakeTwo() {
        for (String kind : new String[] {"6", "7"}) {
            conditionDue(kind, false);
            conditionDue("0" + kind, false);
            conditionDue("00" + kind, true);
            conditionDue("000" + kind, false);
            conditionDue("05" + kind, false);
            conditionDue("00" + kind + kind, false);
            conditionDue("000" + kind + kind, true);
            conditionDue("00" + kind + "0" + kind, true);
            // One would wait at last if what isn't there could be taken.
            conditionDue(kind + "00", false);
            conditionDue("0" + kind + "0", false);
            conditionDue("0" + kind + "00" + kind, false);
        }
        conditionDue("00067", true);
        conditionDue("00706", true);
    }

    private static void oneWaitsAtLast() {
        conditionDue("0", true);
        conditionDue("00", false);
        conditionDue("0".repeat(64), false);
        conditionDue("0".repeat(32) + "6".repeat(31), true);
        conditionDue("0".repeat(32) + "7".repeat(31) + "5", true);
        conditionDue("0".repeat(32) + "6".repeat(30), false);
        conditionDue("0".repeat(33) + "6".repeat(31), false);
        conditionDue("0".repeat(32) + "6".repeat(32), false);
        conditionDue("0" + "06".repeat(31), true);
        conditionDue("0" + "06".repeat(31) + "0", false);
    }

    private static void noStepsAreTrue() {
        TruthScan x = new TruthScan();
        due("scan of none", x.scan(0), 0);
        due("scan of one", x.scan(1), 1);
        due("it is TRUE", x.truth(0), 1);
        due("scan of a thousand", x.scan(1000), 1000);
        due("the last is TRUE", x.truth(999), 1);
        due("the last is chosen", x.chosen(999), 999);
        due("can", x.can(), 2);
        x.column(WHOLE);
        due("columns without rows mean nothing", x.scan(1000), 1000);
        x.step(AND, 0, 0, 0, 0);
        due("steps that are no condition", x.scan(1), NONE);
        x.forget();
        due("no steps again", x.scan(1000), 1000);
        due("can again", x.can(), 2);
    }

    private static void eightKinds() {
        TruthScan x = new TruthScan();
        x.column(WHOLE);
        x.literal(WHOLE, 1);
        for (int kind : new int[] {-1, 8, 9, MIN, MIN + 1, MAX - 1, MAX}) {
            due("kind " + kind, x.step(kind, 0, 0, 0, 1), NONE);
        }
        for (int kind = 0; kind < 8; kind++) {
            due("kind " + kind, x.step(kind, 0, 0, 0, 1), kind);
        }
    }

    private static void sixOperators() {
        TruthScan x = new TruthScan();
        x.column(WHOLE);
        x.literal(WHOLE, 1);
        for (int operator : new int[] {-1, 6, 7, MIN, MIN + 1, MAX - 1, MAX}) {
            due("with a literal by " + operator, x.step(WITH_LITERAL, 0, operator, 0, 0), NONE);
            due("with a column by " + operator, x.step(WITH_COLUMN, 0, operator, 0, 0), NONE);
        }
        for (int operator = 0; operator < 6; operator++) {
            due("with a literal by " + operator, x.step(WITH_LITERAL, 0, operator, 0, 0), 2 * operator);
            due("with a column by " + operator, x.step(WITH_COLUMN, 0, operator, 0, 0), 2 * operator + 1);
        }
        // By operator: the end of long below, one below, the same, one above, the end of long above, missing.
        String[] wanted = {"001002", "110112", "110002", "111002", "000112", "001112"};
        for (int operator = 0; operator < 6; operator++) {
            TruthScan y = whole(Long.MIN_VALUE, 6, 7, 8, Long.MAX_VALUE);
            y.miss(0, 1);
            compared(y, 0, operator, 7);
            truthsDue("with 7 by " + operator, y, wanted[operator]);
            y.column(WHOLE);
            y.add(1, 7, 6);
            y.forget();
            y.step(WITH_COLUMN, 0, operator, 1, 0);
            truthsDue("with a column of 7 by " + operator, y, wanted[operator]);
        }
    }

    private static void literalsInARow() {
        int[][] taken = {{0, 1}, {5, 1}, {1, 3}, {2, 62}, {0, 64}, {63, 1}, {62, 2}};
        String[] wanted = {"100000", "000001", "011100", "001111", "111111", "000000", "000000"};
        for (int i = 0; i < taken.length; i++) {
            TruthScan x = sixRowsAndAllLiterals();
            due("IN " + Arrays.toString(taken[i]), x.step(IN, 0, 0, taken[i][0], taken[i][1]), 0);
            truthsDue("IN " + Arrays.toString(taken[i]), x, wanted[i]);
        }
        int[][] refused = {{0, 0}, {0, -1}, {63, 0}, {64, 0}, {64, 1}, {63, 2}, {1, 64}, {0, 65}, {-1, 1}, {-1, 2}, {-1, 65},
            {0, MAX}, {1, MAX}, {63, MAX}, {MAX, 1}, {MAX, MAX}, {MIN, 1}, {MIN, MAX}, {0, MIN}, {MIN, MIN}, {1, MIN}};
        TruthScan x = sixRowsAndAllLiterals();
        for (int[] no : refused) {
            due("IN " + Arrays.toString(no), x.step(IN, 0, 0, no[0], no[1]), NONE);
        }
        due("no step came of them", x.can(), 2);
    }

    private static TruthScan sixRowsAndAllLiterals() {
        TruthScan x = whole(0, 1, 2, 3, 4, 5);
        for (int i = 0; i < 64; i++) {
            x.literal(WHOLE, i);
        }
        return x;
    }

    private static void unknownWhereMissing() {
        TruthScan x = new TruthScan();
        x.column(WHOLE);
        x.column(WHOLE);
        x.add(0, 1, 2);
        x.miss(0, 2);
        for (int i = 0; i < 2; i++) {
            x.add(1, 1, 1);
            x.miss(1, 1);
        }
        x.literal(WHOLE, 1);
        x.step(IN, 0, 0, 0, 1);
        truthsDue("IN", x, "1122");
        for (int operator = 0; operator < 6; operator++) {
            boolean same = operator == EQUAL || operator == AT_MOST || operator == AT_LEAST;
            compared(x, 0, operator, 1);
            truthsDue("with a literal by " + operator, x, same ? "1122" : "0022");
            x.forget();
            x.step(WITH_COLUMN, 0, operator, 1, 0);
            truthsDue("with a column by " + operator, x, same ? "1222" : "0222");
            x.forget();
            x.step(WITH_COLUMN, 0, operator, 0, 0);
            truthsDue("with itself by " + operator, x, same ? "1122" : "0022");
        }
        x.forget();
        x.step(IS_NULL, 0, 0, 0, 0);
        truthsDue("but IS NULL", x, "0011");
        x.forget();
        x.step(NOT_NULL, 0, 0, 0, 0);
        truthsDue("but NOT NULL", x, "1100");
    }

    private static void notOfTruths() {
        TruthScan x = truthTable();
        x.step(WITH_LITERAL, 1, EQUAL, 0, 0);
        truthsDue("as they are", x, "012012012");
        x.step(NOT, 0, 0, 0, 0);
        truthsDue("NOT", x, "102102102");
    }

    private static void andOfTruths() {
        TruthScan x = truthTable();
        x.step(WITH_LITERAL, 0, EQUAL, 0, 0);
        x.step(WITH_LITERAL, 1, EQUAL, 0, 0);
        x.step(AND, 0, 0, 0, 0);
        truthsDue("AND", x, "000012022");
    }

    private static void orOfTruths() {
        TruthScan x = truthTable();
        x.step(WITH_LITERAL, 0, EQUAL, 0, 0);
        x.step(WITH_LITERAL, 1, EQUAL, 0, 0);
        x.step(OR, 0, 0, 0, 0);
        truthsDue("OR", x, "012111212");
    }

    // What is known

    private static void nothingKnownIsEach() {
        TruthScan x = new TruthScan();
        x.column(WHOLE);
        x.column(WHOLE);
        int[] wanted = {3, 3, 7, 7, 7};
        for (int kind = IS_NULL; kind <= WITH_COLUMN; kind++) {
            x.forget();
            x.literal(WHOLE, 1);
            x.step(kind, 0, EQUAL, kind == WITH_COLUMN ? 1 : 0, 1);
            due("kind " + kind, x.can(), wanted[kind]);
        }
        x.add(0, 1, 1);
        x.known(0, 1, 0);
        due("only the first is known", x.can(), 7);
        x.unknown(0);
        x.add(1, 1, 1);
        x.known(1, 1, 0);
        due("only the second is known", x.can(), 7);
        x.known(1, 0, 0);
        due("the second is known to have no rows", x.can(), 7);
        x.known(0, 1, 0);
        due("both are known", x.can(), 0);
    }

    private static void isNullCanBe() {
        nullsDue(IS_NULL, new int[] {0, 1, 2, 1, 3, 2, 1, 3, 3, 2});
    }

    private static void notNullCanBe() {
        nullsDue(NOT_NULL, new int[] {0, 2, 1, 2, 3, 1, 2, 3, 3, 1});
    }

    private static void nullsDue(int kind, int[] wanted) {
        int[][] cases = {{0, 0}, {1, 0}, {1, 1}, {2, 0}, {2, 1}, {2, 2},
            {1000000, 0}, {1000000, 1}, {1000000, 999999}, {1000000, 1000000}};
        TruthScan x = whole(5);
        x.step(kind, 0, 0, 0, 0);
        for (int i = 0; i < cases.length; i++) {
            due("known " + Arrays.toString(cases[i]), x.known(0, cases[i][0], cases[i][1]), true);
            due("of " + Arrays.toString(cases[i]), x.can(), wanted[i]);
        }
    }

    private static void canBeUnknown() {
        TruthScan x = new TruthScan();
        x.column(WHOLE);
        x.column(WHOLE);
        x.add(0, 5, 1);
        x.add(1, 5, 1);
        // A condition that is TRUE of values, so that what is missing shows alone.
        for (int kind = IN; kind <= WITH_COLUMN; kind++) {
            x.forget();
            x.literal(WHOLE, 5);
            x.step(kind, 0, EQUAL, kind == WITH_COLUMN ? 1 : 0, 1);
            x.known(0, 1000000, 0);
            x.known(1, 1000000, 0);
            due("none missing, kind " + kind, x.can(), 2);
            x.known(0, 1000000, 1);
            due("one missing, kind " + kind, x.can(), 6);
            x.known(0, 1000000, 999999);
            due("one there, kind " + kind, x.can(), 6);
            x.known(0, 1000000, 0);
            x.known(1, 1000000, 1);
            due("one missing of the second column, kind " + kind, x.can(), kind == WITH_COLUMN ? 6 : 2);
            x.known(0, 1000000, 1);
            due("one missing of each, kind " + kind, x.can(), 6);
        }
    }

    private static void onlyWithValues() {
        TruthScan x = new TruthScan();
        x.column(WHOLE);
        x.column(WHOLE);
        x.add(0, 5, 1);
        x.add(1, 5, 1);
        for (int kind = IN; kind <= WITH_COLUMN; kind++) {
            boolean withColumn = kind == WITH_COLUMN;
            x.forget();
            x.literal(WHOLE, 5);
            x.step(kind, 0, EQUAL, withColumn ? 1 : 0, 1);
            x.known(0, 1, 1);
            x.known(1, 1, 0);
            due("all missing, kind " + kind, x.can(), 4);
            x.known(0, 0, 0);
            due("no rows, kind " + kind, x.can(), 0);
            x.known(0, 1, 0);
            x.known(1, 1, 1);
            due("all missing of the second, kind " + kind, x.can(), withColumn ? 4 : 2);
            x.known(1, 0, 0);
            due("no rows of the second, kind " + kind, x.can(), withColumn ? 0 : 2);
            x.known(0, 0, 0);
            due("no rows of both, kind " + kind, x.can(), 0);
            x.known(0, 2, 1);
            due("one there and one missing, no rows of the second, kind " + kind, x.can(), withColumn ? 4 : 6);
        }
        TruthScan y = new TruthScan();
        y.column(WHOLE);
        y.known(0, 3, 3);
        compared(y, 0, EQUAL, 5);
        due("without rows to have a LEAST of", y.can(), 4);
        y.step(NOT, 0, 0, 0, 0);
        due("NOT of it", y.can(), 4);
    }

    private static void fromLeastToGreatest() {
        // By operator, of 10 .. 20, with 9, 10, 11, 15, 19, 20, 21.
        int[][] wanted = {{1, 3, 3, 3, 3, 3, 1}, {2, 3, 3, 3, 3, 3, 2}, {1, 1, 3, 3, 3, 3, 2},
            {1, 3, 3, 3, 3, 2, 2}, {2, 3, 3, 3, 3, 1, 1}, {2, 2, 3, 3, 3, 3, 1}};
        TruthScan x = whole(15, 10, 20, 12);
        x.known(0, 4, 0);
        canDueByOperator(x, new long[] {9, 10, 11, 15, 19, 20, 21}, wanted);
    }

    private static void fromEndToEnd() {
        // By operator, with the ends of long and 0 and 1.
        long[] literals = {Long.MIN_VALUE, Long.MIN_VALUE + 1, 0, Long.MAX_VALUE - 1, Long.MAX_VALUE};
        int[][] wanted = {{3, 3, 3, 3, 3}, {3, 3, 3, 3, 3}, {1, 3, 3, 3, 3}, {3, 3, 3, 3, 2}, {3, 3, 3, 3, 1}, {2, 3, 3, 3, 3}};
        TruthScan x = whole(Long.MAX_VALUE, Long.MIN_VALUE);
        x.known(0, 2, 0);
        canDueByOperator(x, literals, wanted);
        int[][] greatestAlone = {{1, 1, 1, 1, 2}, {2, 2, 2, 2, 1}, {1, 1, 1, 1, 1}, {1, 1, 1, 1, 2}, {2, 2, 2, 2, 1}, {2, 2, 2, 2, 2}};
        TruthScan y = whole(Long.MAX_VALUE);
        y.known(0, 1, 0);
        canDueByOperator(y, literals, greatestAlone);
        int[][] leastAlone = {{2, 1, 1, 1, 1}, {1, 2, 2, 2, 2}, {1, 2, 2, 2, 2}, {2, 2, 2, 2, 2}, {1, 1, 1, 1, 1}, {2, 1, 1, 1, 1}};
        TruthScan z = whole(Long.MIN_VALUE);
        z.known(0, 1, 0);
        canDueByOperator(z, literals, leastAlone);
    }

    private static void leastIsGreatest() {
        // By operator, of 7 alone, with 6, 7 and 8.
        int[][] wanted = {{1, 2, 1}, {2, 1, 2}, {1, 1, 2}, {1, 2, 2}, {2, 1, 1}, {2, 2, 1}};
        TruthScan x = whole(7, 7);
        x.known(0, 1000000, 0);
        canDueByOperator(x, new long[] {6, 7, 8}, wanted);
    }

    private static void othersBetween() {
        // Of 1 .. 3 with 2 each operator can be both; of 1 .. 2 there is none strictly between.
        TruthScan x = whole(1, 3);
        x.known(0, 2, 0);
        canDueByOperator(x, new long[] {2}, new int[][] {{3}, {3}, {3}, {3}, {3}, {3}});
        TruthScan y = whole(1, 2);
        y.known(0, 2, 0);
        canDueByOperator(y, new long[] {1, 2}, new int[][] {{3, 3}, {3, 3}, {1, 3}, {3, 2}, {3, 1}, {2, 3}});
    }

    private static void textsFromLeastToGreatest() {
        // By operator, of "b" .. "d", with "", "az", "b", "b\0", "c", "d", "d\0", "\u00ff".
        String[] literals = {"", "az", "b", "b\0", "c", "d", "d\0", "\u00ff"};
        int[][] wanted = {{1, 1, 3, 3, 3, 3, 1, 1}, {2, 2, 3, 3, 3, 3, 2, 2}, {1, 1, 1, 3, 3, 3, 2, 2},
            {1, 1, 3, 3, 3, 2, 2, 2}, {2, 2, 3, 3, 3, 1, 1, 1}, {2, 2, 2, 3, 3, 3, 1, 1}};
        TruthScan x = texts("d", "b");
        x.known(0, 2, 0);
        for (int operator = 0; operator < 6; operator++) {
            for (int i = 0; i < literals.length; i++) {
                textCompared(x, operator, literals[i]);
                due("operator " + operator + " with literal " + i, x.can(), wanted[operator][i]);
            }
        }
        TruthScan y = texts("", "\0");
        y.known(0, 2, 0);
        textCompared(y, BELOW, "");
        due("nothing is below the empty text", y.can(), 1);
        textCompared(y, AT_LEAST, "");
        due("all is at least the empty text", y.can(), 2);
        textCompared(y, AT_MOST, "\0");
        due("all is at most the greatest", y.can(), 2);
    }

    private static void boolsFromLeastToGreatest() {
        int[][] both = {{3, 3}, {3, 3}, {1, 3}, {3, 2}, {3, 1}, {2, 3}};
        int[][] falseAlone = {{2, 1}, {1, 2}, {1, 2}, {2, 2}, {1, 1}, {2, 1}};
        int[][] trueAlone = {{1, 2}, {2, 1}, {1, 1}, {1, 2}, {2, 1}, {2, 2}};
        boolsDue("false and true", 3, both);
        boolsDue("false alone", 1, falseAlone);
        boolsDue("true alone", 2, trueAlone);
    }

    private static void boolsDue(String what, int set, int[][] wanted) {
        TruthScan x = new TruthScan();
        x.column(BOOL);
        for (int value = 0; value < 2; value++) {
            if ((set >> value & 1) != 0) {
                x.add(0, value, 1);
            }
        }
        x.known(0, 2, 0);
        for (int dictionary = 0; dictionary < 2; dictionary++) {
            for (int operator = 0; operator < 6; operator++) {
                for (int value = 0; value < 2; value++) {
                    x.forget();
                    x.step(WITH_LITERAL, 0, operator, x.literal(BOOL, value), 0);
                    due(what + " by " + operator + " with " + value, x.can(), wanted[operator][value]);
                }
            }
            due("the same with a dictionary of " + what, x.dictionary(0), true);
        }
    }

    private static void valuesOfDictionary() {
        // By operator, of 10, 12 and 20, with 9, 10, 11, 12, 19, 20, 21.
        int[][] wanted = {{1, 3, 1, 3, 1, 3, 1}, {2, 3, 2, 3, 2, 3, 2}, {1, 1, 3, 3, 3, 3, 2},
            {1, 3, 3, 3, 3, 2, 2}, {2, 3, 3, 3, 3, 1, 1}, {2, 2, 3, 3, 3, 3, 1}};
        TruthScan x = whole(20, 10, 12);
        x.known(0, 3, 0);
        x.dictionary(0);
        canDueByOperator(x, new long[] {9, 10, 11, 12, 19, 20, 21}, wanted);
        // By operator, of 12 alone, though LEAST is 10 and GREATEST 20, with 10, 11, 12, 13, 20.
        int[][] narrow = {{1, 1, 2, 1, 1}, {2, 2, 1, 2, 2}, {1, 1, 1, 2, 2}, {1, 1, 2, 2, 2}, {2, 2, 1, 1, 1}, {2, 2, 2, 1, 1}};
        x.clear(0);
        x.add(0, 12, 1);
        x.dictionary(0);
        canDueByOperator(x, new long[] {10, 11, 12, 13, 20}, narrow);
        x.known(0, 3, 3);
        due("a dictionary though all are missing", x.dictionary(0), true);
        compared(x, 0, EQUAL, 12);
        due("= 12 where all are missing", x.can(), 4);
    }

    private static void inCanBeTrue() {
        TruthScan x = whole(10, 20);
        x.known(0, 2, 0);
        inDue(x, 1, 9);
        inDue(x, 3, 10);
        inDue(x, 3, 11);
        inDue(x, 3, 20);
        inDue(x, 1, 21);
        inDue(x, 1, 9, 21, Long.MIN_VALUE, Long.MAX_VALUE);
        inDue(x, 3, 9, 21, 15);
        inDue(x, 3, 15, 9, 21);
        x.dictionary(0);
        inDue(x, 1, 11, 15, 19);
        inDue(x, 3, 10, 15);
        inDue(x, 3, 15, 20);
    }

    private static void inCanBeFalseByDictionary() {
        TruthScan x = whole(10, 15, 20);
        x.known(0, 3, 0);
        x.dictionary(0);
        inDue(x, 2, 10, 15, 20);
        inDue(x, 2, 20, 10, 15, 10, 99);
        inDue(x, 3, 15, 20);
        inDue(x, 3, 10, 20);
        inDue(x, 3, 10, 15);
        x.clear(0);
        x.add(0, 15, 1);
        x.dictionary(0);
        inDue(x, 2, 15);
        inDue(x, 1, 10, 20);
        TruthScan y = new TruthScan();
        y.column(BOOL);
        y.add(0, 0, 1);
        y.add(0, 1, 1);
        y.known(0, 2, 0);
        y.literal(BOOL, 0);
        y.literal(BOOL, 1);
        y.step(IN, 0, 0, 0, 2);
        due("bools from false to true", y.can(), 3);
        y.dictionary(0);
        due("bools of a dictionary", y.can(), 2);
    }

    private static void inCanBeFalseByBounds() {
        TruthScan x = whole(10, 11);
        x.known(0, 2, 0);
        inDue(x, 3, 10, 11);
        inDue(x, 3, 10);
        x.clear(0);
        x.add(0, 10, 1);
        x.known(0, 2, 0);
        inDue(x, 2, 10);
        inDue(x, 2, 9, 10, 11);
        inDue(x, 1, 9, 11);
        x.clear(0);
        x.add(0, Long.MIN_VALUE, 1);
        x.known(0, 1, 0);
        inDue(x, 2, Long.MAX_VALUE, Long.MIN_VALUE);
        inDue(x, 1, Long.MAX_VALUE, Long.MIN_VALUE + 1);
    }

    private static void columnsEqual() {
        columnsDue(EQUAL, 1, 4, 6, 9, 1);
        columnsDue(EQUAL, 1, 5, 6, 9, 1);
        columnsDue(EQUAL, 1, 6, 6, 9, 3);
        columnsDue(EQUAL, 1, 7, 6, 9, 3);
        columnsDue(EQUAL, 6, 9, 1, 5, 1);
        columnsDue(EQUAL, 6, 9, 1, 6, 3);
        columnsDue(EQUAL, 6, 6, 1, 9, 3);
        columnsDue(EQUAL, 1, 9, 6, 6, 3);
        columnsDue(EQUAL, 6, 6, 6, 6, 2);
        columnsDue(EQUAL, 6, 6, 7, 7, 1);
        columnsDue(EQUAL, 7, 7, 6, 6, 1);
        columnsDue(EQUAL, Long.MIN_VALUE, -1, 0, Long.MAX_VALUE, 1);
        columnsDue(EQUAL, Long.MIN_VALUE, 0, 0, Long.MAX_VALUE, 3);
        columnsDue(EQUAL, Long.MAX_VALUE, Long.MAX_VALUE, Long.MIN_VALUE, Long.MIN_VALUE, 1);
    }

    private static void columnsOrdered() {
        // LEAST and GREATEST of both, then <, <=, >, >=.
        long[][] cases = {
            {1, 4, 6, 9, 2, 2, 1, 1}, {1, 6, 6, 9, 3, 2, 1, 3}, {1, 7, 6, 9, 3, 3, 3, 3},
            {6, 9, 1, 4, 1, 1, 2, 2}, {6, 9, 1, 6, 1, 3, 3, 2}, {6, 9, 1, 7, 3, 3, 3, 3},
            {6, 6, 6, 6, 1, 2, 1, 2}, {6, 6, 6, 7, 3, 2, 1, 3}, {6, 6, 5, 6, 1, 3, 3, 2},
            {6, 7, 6, 6, 1, 3, 3, 2}, {5, 6, 6, 6, 3, 2, 1, 3}, {5, 7, 6, 6, 3, 3, 3, 3},
            {Long.MIN_VALUE, Long.MIN_VALUE, Long.MAX_VALUE, Long.MAX_VALUE, 2, 2, 1, 1},
            {Long.MAX_VALUE, Long.MAX_VALUE, Long.MIN_VALUE, Long.MIN_VALUE, 1, 1, 2, 2},
        };
        for (long[] c : cases) {
            for (int operator = BELOW; operator <= AT_LEAST; operator++) {
                columnsDue(operator, c[0], c[1], c[2], c[3], (int) c[2 + operator]);
            }
        }
    }

    private static void columnsUnequal() {
        columnsDue(UNEQUAL, 6, 6, 6, 6, 1);
        columnsDue(UNEQUAL, 6, 6, 7, 7, 2);
        columnsDue(UNEQUAL, 5, 6, 6, 6, 3);
        columnsDue(UNEQUAL, 6, 7, 6, 6, 3);
        columnsDue(UNEQUAL, 6, 6, 5, 6, 3);
        columnsDue(UNEQUAL, 6, 6, 6, 7, 3);
        columnsDue(UNEQUAL, 6, 7, 6, 7, 3);
        columnsDue(UNEQUAL, 6, 7, 8, 9, 2);
        columnsDue(UNEQUAL, Long.MIN_VALUE, Long.MIN_VALUE, Long.MIN_VALUE, Long.MIN_VALUE, 1);
        columnsDue(UNEQUAL, Long.MAX_VALUE, Long.MAX_VALUE, Long.MAX_VALUE, Long.MAX_VALUE, 1);
    }

    private static void columnsWithDictionaries() {
        TruthScan x = whole(1, 3);
        x.column(WHOLE);
        x.add(1, 0, 1);
        x.add(1, 2, 1);
        x.add(1, 4, 1);
        x.known(0, 2, 0);
        x.known(1, 3, 0);
        x.dictionary(0);
        x.dictionary(1);
        x.step(WITH_COLUMN, 0, EQUAL, 1, 0);
        due("no value of one is one of the other", x.can(), 3);
        x.clear(1);
        x.add(1, 2, 1);
        x.dictionary(1);
        due("one value of the second", x.can(), 3);
        x.forget();
        x.step(WITH_COLUMN, 0, EQUAL, 0, 0);
        due("a column with itself", x.can(), 3);
    }

    private static void notCanBe() {
        int[] wanted = {0, 2, 1, 3, 4, 6, 5, 7};
        for (int set = 0; set < 8; set++) {
            TruthScan x = new TruthScan();
            stepThatCanBe(x, 0, set);
            due("the set " + set, x.can(), set);
            x.step(NOT, 0, 0, 0, 0);
            due("NOT of " + set, x.can(), wanted[set]);
        }
    }

    private static void andCanBe() {
        // Of nothing, FALSE, TRUE, both, UNKNOWN, and UNKNOWN with each of these.
        String[] wanted = {"01010101", "11111111", "01234567", "11335577", "01454545", "11555555", "01674567", "11775577"};
        setsDue(AND, wanted);
    }

    private static void orCanBe() {
        String[] wanted = {"00220022", "01234567", "22222222", "23236767", "04264466", "05274567", "26266666", "27276767"};
        setsDue(OR, wanted);
    }

    // Promises 1 to 7

    private static void newObject() {
        TruthScan x = new TruthScan();
        due("no column 0 to add to", x.add(0, 0, 1), false);
        due("nor for texts", x.addText(0, 0), false);
        due("nor to miss in", x.miss(0, 1), false);
        due("nor to clear", x.clear(0), false);
        due("nor to know", x.known(0, 0, 0), false);
        due("nor with a dictionary", x.dictionary(0), false);
        due("nor to not know", x.unknown(0), false);
        due("nor for a step", x.step(IS_NULL, 0, 0, 0, 0), NONE);
        due("no scan yet", x.truth(0), NONE);
        due("nothing chosen yet", x.chosen(0), NONE);
        due("no byte on the tape", x.literalText(1), NONE);
        due("but none of it", x.literalText(0), 0);
        due("no steps", x.scan(0), 0);
        due("the first step", x.step(NOT, 0, 0, 0, 0), 0);
        due("the first column", x.column(WHOLE), 0);
        due("a second literal", x.literal(BOOL, 1), 1);
    }

    private static void highestByteFirst() {
        for (int place = 0; place < 20; place++) {
            int[] fed = new int[5];
            fed[place / 4] = 1 << (24 - place % 4 * 8);
            TruthScan x = new TruthScan();
            x.column(TEXT);
            x.feed(fed[0], fed[1], fed[2], fed[3], fed[4]);
            x.addText(0, place);
            x.feed(fed[0], fed[1], fed[2], fed[3], fed[4]);
            x.addText(0, place + 1);
            x.feed(0, 0, 0, 0, 0);
            x.literalText(place);
            x.step(WITH_LITERAL, 0, EQUAL, 0, 0);
            truthsDue("not before place " + place, x, "10");
            x.feed(0, 0, 0, 0, 0);
            x.literalText(place + 1);
            x.step(WITH_LITERAL, 0, ABOVE, 1, 0);
            x.step(OR, 0, 0, 0, 0);
            truthsDue("but at place " + place, x, "11");
        }
        int[] ordered = {0, 1, 255, 256, MAX, MIN, MIN + 1, -2, -1};
        TruthScan y = new TruthScan();
        y.column(TEXT);
        for (int number : ordered) {
            y.feed(number, 0, 0, 0, 0);
            y.addText(0, 4);
        }
        for (int i = 0; i < ordered.length; i++) {
            y.forget();
            y.feed(ordered[i], 0, 0, 0, 0);
            y.literalText(4);
            y.step(WITH_LITERAL, 0, BELOW, 0, 0);
            due("below the number " + ordered[i], y.scan(ordered.length), i);
        }
    }

    private static void noRoomOnTape() {
        TruthScan x = new TruthScan();
        x.column(TEXT);
        feedBytes(x, text(260));
        x.addText(0, 255);
        feedBytes(x, text(980));
        due("twenty more than 980", x.feed(MIN, MIN, MIN, MIN, MIN), true);
        for (int number : new int[] {0, -1, MIN, MAX}) {
            due("twenty more than 1000", x.feed(number, number, number, number, number), false);
        }
        due("no more came", x.literalText(1001), NONE);
        due("the first ones are there", x.literalText(255), 0);
        x.step(WITH_LITERAL, 0, EQUAL, 0, 0);
        due("as they were", x.scan(1), 1);
        due("now there is room", x.feed(0, 0, 0, 0, 0), true);
        due("for twenty", x.literalText(21), NONE);
        due("and no less", x.literalText(20), 1);
    }

    private static void refusedColumn() {
        TruthScan x = new TruthScan();
        for (int i = 0; i < 15; i++) {
            x.column(WHOLE);
        }
        due("no such type, with 15", x.column(3), NONE);
        due("the sixteenth", x.column(TEXT), 15);
        for (int type = -1; type <= 3; type++) {
            due("type " + type + " with 16", x.column(type), NONE);
        }
        due("the sixteenth is of its type", x.addText(15, 0), true);
    }

    private static void newColumnIsUnknown() {
        TruthScan x = new TruthScan();
        for (int column = 0; column < 16; column++) {
            x.column(column % 3);
            due("no dictionary of " + column, x.dictionary(column), false);
            x.forget();
            x.step(IS_NULL, column, 0, 0, 0);
            due("of column " + column, x.can(), 3);
            x.known(column, 0, 0);
            due("until it is known", x.can(), 0);
        }
    }

    private static void addManyTimes() {
        for (int n : new int[] {0, -1, -1000, 1001, MIN, MIN + 1, MAX - 1, MAX}) {
            TruthScan x = whole();
            due(n + " times", x.add(0, 5, n), false);
            rowsDue(x, 0, 0);
        }
        for (int n : new int[] {1, 2, 999, 1000}) {
            TruthScan x = whole();
            due(n + " times", x.add(0, 5, n), true);
            rowsDue(x, 0, n);
            compared(x, 0, EQUAL, 5);
            due("all of them", x.scan(n), n);
        }
    }

    private static void addToThousand() {
        for (int have : new int[] {1, 500, 998, 999}) {
            TruthScan x = whole();
            x.add(0, 5, have);
            due("one too many above " + have, x.add(0, 6, 1001 - have), false);
            due("far too many above " + have, x.add(0, 6, MAX), false);
            due("so many that the sum wraps around", x.add(0, 6, MAX - have + 1), false);
            rowsDue(x, 0, have);
            due("just enough above " + have, x.add(0, 6, 1000 - have), true);
            rowsDue(x, 0, 1000);
            due("one more", x.add(0, 6, 1), false);
            rowsDue(x, 0, 1000);
            compared(x, 0, EQUAL, 5);
            due("those before stay", x.scan(1000), have);
        }
    }

    private static void addNotOfTexts() {
        TruthScan x = texts("a");
        for (long value : new long[] {-1, 0, 1, 97, Long.MIN_VALUE, Long.MAX_VALUE}) {
            due("a row of " + value, x.add(0, value, 1), false);
        }
        rowsDue(x, 0, 1);
    }

    private static void addNoSuch() {
        TruthScan x = whole(1);
        x.column(BOOL);
        for (int no : new int[] {-1, 2, 16, MIN, MIN + 1, MAX - 1, MAX}) {
            due("column " + no, x.add(no, 0, 1), false);
        }
        for (long no : new long[] {-1, 2, Long.MIN_VALUE, Long.MAX_VALUE}) {
            due("a bool of " + no, x.add(1, no, 1), false);
        }
        rowsDue(x, 0, 1);
        rowsDue(x, 1, 0);
    }

    private static void firstBytesOfTape() {
        int[] lengths = {0, 1, 20, 21, 40};
        String[] wanted = {"10000", "01000", "00100", "00010", "00001"};
        TruthScan x = new TruthScan();
        x.column(TEXT);
        for (int n : lengths) {
            feedBytes(x, text(40));
            due("the first " + n, x.addText(0, n), true);
            due("the tape is empty", x.addText(0, 1), false);
        }
        for (int i = 0; i < lengths.length; i++) {
            x.forget();
            feedBytes(x, text(lengths[i]));
            x.literalText(lengths[i]);
            x.step(WITH_LITERAL, 0, EQUAL, 0, 0);
            truthsDue("the same as " + lengths[i] + " bytes", x, wanted[i]);
        }
    }

    private static void addTextNoSuchColumn() {
        TruthScan x = texts("a");
        x.column(WHOLE);
        x.column(BOOL);
        for (int no : new int[] {-1, 1, 2, 3, 16, MIN, MIN + 1, MAX - 1, MAX}) {
            feedBytes(x, text(20));
            due("column " + no, x.addText(no, 20), false);
            due("the text was cut off", x.literalText(1), NONE);
        }
        rowsDue(x, 0, 1);
        rowsDue(x, 1, 0);
        rowsDue(x, 2, 0);
    }

    private static void addTextToThousand() {
        TruthScan x = texts("a");
        x.miss(0, 998);
        feedBytes(x, text(20));
        due("the thousandth", x.addText(0, 3), true);
        feedBytes(x, text(20));
        due("one more", x.addText(0, 3), false);
        due("the text was cut off", x.literalText(1), NONE);
        due("an empty one", x.addText(0, 0), false);
        rowsDue(x, 0, 1000);
    }

    private static void addTextTooLong() {
        for (int n : new int[] {254, 255, 256, 257, 999, 1000}) {
            TruthScan x = new TruthScan();
            x.column(TEXT);
            feedBytes(x, text(1000));
            due(n + " bytes", x.addText(0, n), n <= 255);
            due("cut off either way", x.literalText(1), NONE);
            rowsDue(x, 0, n <= 255 ? 1 : 0);
        }
    }

    private static void addTextNoRoom() {
        TruthScan x = new TruthScan();
        x.column(TEXT);
        for (int i = 0; i < 31; i++) {
            feedBytes(x, text(255));
            due("255 more than " + 255 * i, x.addText(0, 255), true);
        }
        feedBytes(x, text(100));
        due("96 above 7905", x.addText(0, 96), false);
        due("the text was cut off", x.literalText(1), NONE);
        feedBytes(x, text(100));
        due("95 above 7905", x.addText(0, 95), true);
        feedBytes(x, text(20));
        due("1 above 8000", x.addText(0, 1), false);
        due("cut off as well", x.literalText(1), NONE);
        due("0 above 8000", x.addText(0, 0), true);
        rowsDue(x, 0, 33);
        x.clear(0);
        feedBytes(x, text(255));
        due("room again", x.addText(0, 255), true);
    }

    private static void addTextTapeStays() {
        TruthScan x = new TruthScan();
        x.column(TEXT);
        x.column(WHOLE);
        feedBytes(x, text(40));
        x.addText(0, 40);
        feedBytes(x, text(40));
        for (int n : new int[] {-1, -40, 41, 255, 256, 1000, MIN, MIN + 1, MAX - 1, MAX}) {
            due(n + " of 40", x.addText(0, n), false);
            due(n + " of 40, no such column", x.addText(2, n), false);
            due(n + " of 40, no column of texts", x.addText(1, n), false);
        }
        rowsDue(x, 0, 1);
        x.forget();
        due("the forty are there", x.literalText(40), 0);
        x.step(WITH_LITERAL, 0, EQUAL, 0, 0);
        due("as they were", x.scan(1), 1);
        x.miss(0, 999);
        feedBytes(x, text(20));
        due("one too many, and a full column", x.addText(0, 21), false);
        due("the tape stays even so", x.literalText(20), 1);
    }

    private static void missManyTimes() {
        for (int type = 0; type < 3; type++) {
            TruthScan x = new TruthScan();
            x.column(type);
            for (int n : new int[] {0, -1, 1001, MIN, MIN + 1, MAX - 1, MAX}) {
                due(n + " times", x.miss(0, n), false);
                rowsDue(x, 0, 0);
            }
            for (int no : new int[] {-1, 1, 16, MIN, MIN + 1, MAX - 1, MAX}) {
                due("column " + no, x.miss(no, 1), false);
            }
            due("1 time", x.miss(0, 1), true);
            due("1000 times above 1", x.miss(0, 1000), false);
            due("so many that the sum wraps around", x.miss(0, MAX), false);
            rowsDue(x, 0, 1);
            due("999 times above 1", x.miss(0, 999), true);
            rowsDue(x, 0, 1000);
            due("1 time above 1000", x.miss(0, 1), false);
            x.forget();
            x.step(IS_NULL, 0, 0, 0, 0);
            due("none has a value", x.scan(1000), 1000);
            x.clear(0);
            due("1000 times", x.miss(0, 1000), true);
        }
    }

    private static void clearedColumn() {
        TruthScan x = whole(5);
        x.known(0, 7, 2);
        x.add(0, 6, 999);
        due("a full one", x.clear(0), true);
        rowsDue(x, 0, 0);
        due("an empty one", x.clear(0), true);
        rowsDue(x, 0, 0);
        compared(x, 0, EQUAL, 5);
        due("what is known stays", x.can(), 6);
        due("a thousand fit again", x.miss(0, 1000), true);
        x.clear(0);
        x.add(0, 7, 1);
        compared(x, 0, EQUAL, 7);
        due("new rows are from 0", x.scan(1), 1);
        due("and no old one is behind them", x.scan(2), NONE);
    }

    private static void clearedTexts() {
        eightThousandBytes(true);
    }

    private static void clearNoSuch() {
        TruthScan x = whole(5);
        for (int no : new int[] {-1, 1, 15, 16, MIN, MIN + 1, MAX - 1, MAX}) {
            due("column " + no, x.clear(no), false);
        }
        rowsDue(x, 0, 1);
    }

    // Promises 8 to 11

    private static void literalFull() {
        TruthScan x = new TruthScan();
        for (int i = 0; i < 63; i++) {
            x.literalText(0);
        }
        due("the sixty-fourth", x.literal(BOOL, 1), 63);
        due("a sixty-fifth", x.literal(BOOL, 1), NONE);
        due("a whole one", x.literal(WHOLE, 1), NONE);
        x.forget();
        due("the first again", x.literal(WHOLE, 1), 0);
    }

    private static void literalNoSuch() {
        TruthScan x = new TruthScan();
        for (int type : new int[] {-1, 2, 3, MIN, MIN + 1, MAX - 1, MAX}) {
            for (long value : new long[] {0, 1, -1, Long.MIN_VALUE, Long.MAX_VALUE}) {
                due("type " + type + ", " + value, x.literal(type, value), NONE);
            }
        }
        for (long value : new long[] {-1, 2, 1L << 32, (1L << 32) + 1, Long.MIN_VALUE, Long.MAX_VALUE}) {
            due("a bool of " + value, x.literal(BOOL, value), NONE);
        }
        due("no number was taken", x.literal(WHOLE, Long.MIN_VALUE), 0);
        due("one was", x.literal(WHOLE, Long.MAX_VALUE), 1);
    }

    private static void literalTextLikeAddText() {
        TruthScan x = new TruthScan();
        due("0 of none", x.literalText(0), 0);
        due("1 of none", x.literalText(1), NONE);
        feedBytes(x, text(260));
        for (int n : new int[] {-1, 261, 1000, MIN, MIN + 1, MAX - 1, MAX}) {
            due(n + " of 260", x.literalText(n), NONE);
        }
        due("the tape stayed", x.literalText(255), 1);
        due("and is empty then", x.literalText(1), NONE);
        feedBytes(x, text(260));
        due("256 of 260", x.literalText(256), NONE);
        due("too long, but cut off", x.literalText(1), NONE);
        feedBytes(x, text(260));
        due("260 of 260", x.literalText(260), NONE);
        due("too long, but cut off as well", x.literalText(1), NONE);
        feedBytes(x, text(20));
        due("0 of 20", x.literalText(0), 2);
        due("the rest was cut off", x.literalText(1), NONE);
    }

    private static void literalTextFull() {
        TruthScan x = new TruthScan();
        for (int i = 0; i < 63; i++) {
            x.literal(WHOLE, i);
        }
        feedBytes(x, text(20));
        due("the sixty-fourth", x.literalText(20), 63);
        feedBytes(x, text(20));
        due("21 of 20", x.literalText(21), NONE);
        due("-1 of 20", x.literalText(-1), NONE);
        x.column(TEXT);
        due("the tape stayed", x.addText(0, 20), true);
        feedBytes(x, text(20));
        due("a sixty-fifth", x.literalText(20), NONE);
        due("it was cut off", x.addText(0, 1), false);
        due("an empty one", x.literalText(0), NONE);
        x.step(WITH_LITERAL, 0, EQUAL, 63, 0);
        due("the sixty-fourth stays", x.scan(1), 1);
    }

    private static void stepColumns() {
        TruthScan x = whole(1);
        x.column(WHOLE);
        x.literal(WHOLE, 1);
        for (int no : new int[] {-1, 2, 15, 16, MIN, MIN + 1, MAX - 1, MAX}) {
            for (int kind = IS_NULL; kind <= WITH_COLUMN; kind++) {
                due("kind " + kind + ", column " + no, x.step(kind, no, EQUAL, 0, 1), NONE);
            }
            due("other column " + no, x.step(WITH_COLUMN, 0, EQUAL, no, 0), NONE);
        }
        for (int kind = IS_NULL; kind <= WITH_COLUMN; kind++) {
            due("kind " + kind + ", column 0", x.step(kind, 0, EQUAL, 0, 1), 2 * kind);
            due("kind " + kind + ", column 1", x.step(kind, 1, EQUAL, 0, 1), 2 * kind + 1);
        }
        due("other column 1", x.step(WITH_COLUMN, 0, EQUAL, 1, 0), 10);
    }

    private static void stepLiterals() {
        TruthScan x = whole(1);
        due("IN, no literals", x.step(IN, 0, 0, 0, 1), NONE);
        due("compared, no literals", x.step(WITH_LITERAL, 0, EQUAL, 0, 1), NONE);
        x.literal(WHOLE, 1);
        x.literal(WHOLE, 2);
        x.literal(WHOLE, 3);
        for (int no : new int[] {-1, 3, 63, 64, MIN, MIN + 1, MAX - 1, MAX}) {
            due("compared with literal " + no, x.step(WITH_LITERAL, 0, EQUAL, no, 1), NONE);
            due("IN from literal " + no, x.step(IN, 0, 0, no, 1), NONE);
        }
        int[] mosts = {3, 2, 1};
        int number = 0;
        for (int first = 0; first < 3; first++) {
            for (int many : new int[] {0, -1, mosts[first] + 1, MIN, MIN + 1, MAX - 1, MAX}) {
                due("IN " + many + " from " + first, x.step(IN, 0, 0, first, many), NONE);
            }
            due("IN one from " + first, x.step(IN, 0, 0, first, 1), number++);
            due("IN the rest from " + first, x.step(IN, 0, 0, first, mosts[first]), number++);
            due("compared with " + first, x.step(WITH_LITERAL, 0, EQUAL, first, 1), number++);
        }
    }

    private static void stepMeaningless() {
        TruthScan x = whole(1);
        x.literal(WHOLE, 1);
        int number = 0;
        for (int any : new int[] {-1, 64, MIN, MAX}) {
            due("IS NULL with " + any, x.step(IS_NULL, 0, any, any, any), number++);
            due("NOT NULL with " + any, x.step(NOT_NULL, 0, any, any, any), number++);
            due("IN by " + any, x.step(IN, 0, any, 0, 1), number++);
            due("with a literal, many " + any, x.step(WITH_LITERAL, 0, EQUAL, 0, any), number++);
            due("with a column, many " + any, x.step(WITH_COLUMN, 0, EQUAL, 0, any), number++);
            for (int kind = NOT; kind <= OR; kind++) {
                due("kind " + kind + " with " + any, x.step(kind, any, any, any, any), number++);
            }
        }
    }

    private static void stepFull() {
        TruthScan x = whole(1);
        x.literal(WHOLE, 1);
        x.step(NOT_NULL, 0, 0, 0, 0);
        for (int i = 1; i < 64; i++) {
            due("step " + i, x.step(i < 63 ? NOT : IN, 0, 0, 0, 1), i);
        }
        for (int kind = 0; kind < 8; kind++) {
            due("kind " + kind + " as the sixty-fifth", x.step(kind, 0, EQUAL, 0, 1), NONE);
        }
        due("two wait", x.can(), NONE);
        x.forget();
        due("the first again", x.step(NOT_NULL, 0, 0, 0, 0), 0);
        due("one waits", x.scan(1), 1);
    }

    private static void stepTypesDiffer() {
        TruthScan x = new TruthScan();
        for (int type = 0; type < 3; type++) {
            x.column(type);
        }
        x.literal(BOOL, 1);
        x.literal(WHOLE, 1);
        x.literalText(0);
        for (int mine = 0; mine < 3; mine++) {
            for (int its = 0; its < 3; its++) {
                String types = mine + " and " + its;
                due("IN, types " + types, x.step(IN, mine, 0, its, 1) >= 0, mine == its);
                due("with a literal, types " + types, x.step(WITH_LITERAL, mine, EQUAL, its, 0) >= 0, mine == its);
                due("with a column, types " + types, x.step(WITH_COLUMN, mine, EQUAL, its, 0) >= 0, mine == its);
            }
        }
        x.forget();
        for (int type : new int[] {BOOL, WHOLE, WHOLE, WHOLE, BOOL}) {
            x.literal(type, 1);
        }
        due("IN, a bool before them", x.step(IN, 1, 0, 0, 4), NONE);
        due("IN, a bool behind them", x.step(IN, 1, 0, 1, 4), NONE);
        due("IN, bools with whole ones between", x.step(IN, 0, 0, 0, 5), NONE);
        due("IN, just the whole ones", x.step(IN, 1, 0, 1, 3), 0);
    }

    private static void forgotten() {
        TruthScan x = whole(1, 2);
        x.known(0, 2, 0);
        x.forget();
        due("no steps from the start", x.can(), 2);
        for (int i = 0; i < 64; i++) {
            x.literal(WHOLE, i);
            x.step(WITH_LITERAL, 0, EQUAL, 1, 0);
        }
        feedBytes(x, text(20));
        x.forget();
        due("no steps", x.scan(1000), 1000);
        due("no literals", x.step(WITH_LITERAL, 0, EQUAL, 0, 0), NONE);
        due("the rows stay", x.step(NOT_NULL, 0, 0, 0, 0), 0);
        due("all of them", x.scan(2), 2);
        due("what is known stays", x.can(), 2);
        due("the tape stays", x.literalText(20), 0);
        x.forget();
        due("the latest scan stays", x.truth(1), 1);
        due("and what it chose", x.chosen(1), 1);
        for (int i = 0; i < 64; i++) {
            due("literal " + i + " again", x.literal(WHOLE, 2), i);
            due("step " + i + " again", x.step(i == 0 ? NOT_NULL : NOT, 0, 0, 0, 0), i);
        }
    }

    // Promises 12 to 14

    private static void scanRows() {
        TruthScan x = whole(7, 8, 7);
        compared(x, 0, EQUAL, 7);
        int[] trues = {0, 1, 1, 2};
        String[] truths = {"", "1", "10", "101"};
        for (int n = 0; n <= 3; n++) {
            due("how many of " + n, x.scan(n), trues[n]);
            truthsDue("rows below " + n, x, truths[n]);
        }
    }

    private static void scanNoCondition() {
        TruthScan x = whole(7, 8);
        compared(x, 0, EQUAL, 8);
        x.scan(2);
        x.step(NOT_NULL, 0, 0, 0, 0);
        for (int n : new int[] {-1, 0, 1, 2, 3, 1000, 1001, MIN, MAX}) {
            due("two wait, scan " + n, x.scan(n), NONE);
        }
        due("the scan before stays", x.chosen(0), 1);
        x.step(OR, 0, 0, 0, 0);
        due("one waits", x.scan(2), 2);
        x.step(OR, 0, 0, 0, 0);
        due("one is too few", x.scan(0), NONE);
        due("the scan before stays again", x.chosen(1), 1);
    }

    private static void scanBounds() {
        TruthScan x = whole();
        for (int steps = 0; steps < 2; steps++) {
            for (int n : new int[] {-1, 1001, 1002, MIN, MIN + 1, MAX - 1, MAX}) {
                due("scan " + n + " with " + steps + " steps", x.scan(n), NONE);
            }
            due("scan 0 with " + steps + " steps", x.scan(0), 0);
            x.clear(0);
            x.add(0, 5, 1000);
            due("scan 1000 with " + steps + " steps", x.scan(1000), 1000);
            due("the last row", x.truth(999), 1);
            due("none behind it", x.truth(1000), NONE);
            x.step(NOT_NULL, 0, 0, 0, 0);
        }
    }

    private static void scanFewerRows() {
        for (int kind = IS_NULL; kind <= WITH_COLUMN; kind++) {
            TruthScan x = whole(1, 1, 1);
            x.column(WHOLE);
            x.literal(WHOLE, 1);
            x.literal(WHOLE, 1);
            x.step(kind, 0, EQUAL, kind == WITH_COLUMN ? 0 : 1, 1);
            due("kind " + kind + ", as many", x.scan(3), kind == IS_NULL ? 0 : 3);
            due("kind " + kind + ", one too few", x.scan(4), NONE);
            due("kind " + kind + ", all too few", x.scan(1000), NONE);
            x.step(IS_NULL, 1, 0, 0, 0);
            x.step(OR, 0, 0, 0, 0);
            due("a second column without rows, none", x.scan(0), 0);
            due("a second column without rows, one", x.scan(1), NONE);
            x.miss(1, 1);
            due("one row in it", x.scan(1), 1);
            due("one row in it, two", x.scan(2), NONE);
        }
        TruthScan y = whole(1, 1, 1);
        y.column(WHOLE);
        y.add(1, 1, 2);
        y.step(WITH_COLUMN, 0, EQUAL, 1, 0);
        due("the other one has two", y.scan(2), 2);
        due("the other one has no three", y.scan(3), NONE);
        y.forget();
        y.step(WITH_COLUMN, 1, EQUAL, 0, 0);
        due("the first one has two", y.scan(2), 2);
        due("the first one has no three", y.scan(3), NONE);
        y.forget();
        y.step(NOT_NULL, 0, 0, 1, 1);
        y.step(NOT, 1, 1, 1, 1);
        y.step(NOT, 1, 1, 1, 1);
        due("no step has the short one", y.scan(3), 3);
    }

    private static void truthOfLatestScan() {
        TruthScan x = whole(7, 8);
        x.miss(0, 1);
        compared(x, 0, EQUAL, 8);
        x.scan(3);
        x.scan(4);
        x.scan(-1);
        x.scan(1001);
        x.step(NOT, 0, 0, 0, 0);
        x.can();
        x.forget();
        x.step(AND, 0, 0, 0, 0);
        x.scan(0);
        x.clear(0);
        x.add(0, 8, 1);
        for (int row = 0; row < 3; row++) {
            due("row " + row, x.truth(row), row);
        }
        x.forget();
        due("a shorter one", x.scan(2), 2);
        due("its last row", x.truth(1), 1);
        due("no row of the longer one", x.truth(2), NONE);
        due("one of no rows", x.scan(0), 0);
        due("has none", x.truth(0), NONE);
    }

    private static void truthNoSuch() {
        TruthScan x = new TruthScan();
        int[] never = {-1, -2, 1000, 1001, MIN, MIN + 1, MAX - 1, MAX};
        for (int row : never) {
            due("row " + row + " without a scan", x.truth(row), NONE);
        }
        due("row 0 without a scan", x.truth(0), NONE);
        x.scan(1001);
        due("row 0 after a scan that was NONE", x.truth(0), NONE);
        x.scan(1000);
        for (int row : never) {
            due("row " + row + " of 1000", x.truth(row), NONE);
        }
        due("row 0 of 1000", x.truth(0), 1);
        due("row 999 of 1000", x.truth(999), 1);
        x.scan(1);
        due("row 0 of 1", x.truth(0), 1);
        due("row 1 of 1", x.truth(1), NONE);
    }

    private static void chosenInOrder() {
        TruthScan x = new TruthScan();
        x.column(BOOL);
        x.add(0, 1, 1);
        x.add(0, 0, 1);
        x.miss(0, 1);
        x.add(0, 1, 2);
        x.add(0, 0, 994);
        x.add(0, 1, 1);
        x.step(WITH_LITERAL, 0, EQUAL, x.literal(BOOL, 1), 0);
        due("how many", x.scan(1000), 4);
        int[] rows = {0, 3, 4, 999, NONE};
        for (int k = 0; k < rows.length; k++) {
            due("chosen " + k, x.chosen(k), rows[k]);
        }
        due("one row fewer", x.scan(999), 3);
        due("the last one isn't there", x.chosen(3), NONE);
        x.forget();
        x.step(NOT_NULL, 0, 0, 0, 0);
        x.step(NOT_NULL, 0, 0, 0, 0);
        due("no condition", x.scan(1000), NONE);
        due("the scan before stays", x.chosen(2), 4);
    }

    private static void chosenNoSuch() {
        TruthScan x = new TruthScan();
        int[] never = {-1, -2, 1000, 1001, MIN, MIN + 1, MAX - 1, MAX};
        for (int k : never) {
            due("k " + k + " without a scan", x.chosen(k), NONE);
        }
        due("k 0 without a scan", x.chosen(0), NONE);
        x.scan(1000);
        for (int k : never) {
            due("k " + k + " of 1000", x.chosen(k), NONE);
        }
        due("k 0 of 1000", x.chosen(0), 0);
        due("k 999 of 1000", x.chosen(999), 999);
        x.scan(0);
        due("k 0 of none", x.chosen(0), NONE);
        x.column(WHOLE);
        x.miss(0, 2);
        x.step(NOT_NULL, 0, 0, 0, 0);
        x.scan(2);
        due("k 0 where none is TRUE", x.chosen(0), NONE);
    }

    // Promises 15 to 18

    private static void knownOfRowsNow() {
        TruthScan x = whole(7);
        x.known(0, 1, 0);
        compared(x, 0, EQUAL, 7);
        due("one row", x.can(), 2);
        x.add(0, 9, 1);
        due("rows that come later don't count", x.can(), 2);
        x.known(0, 1, 0);
        due("unless it is told again", x.can(), 3);
        x.clear(0);
        x.miss(0, 3);
        due("nor those that go", x.can(), 3);
        due("none has a value now", x.known(0, 3, 3), true);
        due("all are missing", x.can(), 4);
        due("there is no LEAST", x.dictionary(0), false);
        x.add(0, 8, 1);
        due("not even if a value comes later", x.dictionary(0), false);
        due("all missing, but its rows have a value", x.known(0, 3, 3), true);
        due("there is a LEAST", x.dictionary(0), true);
        x.clear(0);
        x.add(0, 3, 998);
        x.add(0, 2, 1);
        x.add(0, 4, 1);
        x.known(0, 1, 0);
        compared(x, 0, BELOW, 3);
        due("LEAST at row 998", x.can(), 3);
        compared(x, 0, ABOVE, 3);
        due("GREATEST at row 999", x.can(), 3);
    }

    private static void knownWithoutDictionary() {
        TruthScan x = whole(1, 3);
        x.known(0, 2, 0);
        x.dictionary(0);
        compared(x, 0, EQUAL, 2);
        due("with one", x.can(), 1);
        due("refused", x.known(0, 2, 3), false);
        due("still with one", x.can(), 1);
        due("known again", x.known(0, 2, 0), true);
        due("without one", x.can(), 3);
    }

    private static void knownNoSuchColumn() {
        TruthScan x = whole(1);
        for (int no : new int[] {-1, 1, 15, 16, MIN, MIN + 1, MAX - 1, MAX}) {
            due("column " + no, x.known(no, 0, 0), false);
        }
        due("column 0", x.known(0, 0, 0), true);
    }

    private static void knownMissing() {
        TruthScan x = whole(1);
        int[][] refused = {{0, 1}, {0, -1}, {1, -1}, {1, 2}, {-1, -1}, {-1, 0}, {-1, -2}, {-1, 1}, {5, 6}, {1000000, 1000001},
            {1000000, -1}, {MIN, MIN}, {MIN, 0}, {MIN, MAX}, {0, MIN}, {0, MAX}, {1000000, MAX}, {1000000, MIN}};
        x.step(IS_NULL, 0, 0, 0, 0);
        for (int[] no : refused) {
            due("known " + Arrays.toString(no), x.known(0, no[0], no[1]), false);
            due("nothing is known by it", x.can(), 3);
        }
        int[][] taken = {{0, 0}, {1, 0}, {1, 1}, {5, 0}, {5, 5}, {1000000, 0}, {1000000, 1000000}};
        for (int[] yes : taken) {
            due("known " + Arrays.toString(yes), x.known(0, yes[0], yes[1]), true);
        }
    }

    private static void knownMillion() {
        TruthScan x = whole(1);
        x.step(NOT_NULL, 0, 0, 0, 0);
        due("a million", x.known(0, 1000000, 0), true);
        due("none missing", x.can(), 2);
        for (int rows : new int[] {1000001, 1000002, MAX - 1, MAX}) {
            due(rows + " rows", x.known(0, rows, rows), false);
            due(rows + " rows, none missing", x.known(0, rows, 0), false);
        }
        due("as known before", x.can(), 2);
        due("one fewer", x.known(0, 999999, 999999), true);
        due("all missing", x.can(), 1);
    }

    private static void knownWithoutValues() {
        for (int missed = 0; missed < 2; missed++) {
            TruthScan x = whole();
            if (missed == 1) {
                x.miss(0, 1000);
            }
            x.step(IS_NULL, 0, 0, 0, 0);
            for (int[] no : new int[][] {{1, 0}, {2, 1}, {1000000, 0}, {1000000, 999999}}) {
                due("known " + Arrays.toString(no), x.known(0, no[0], no[1]), false);
                due("nothing is known by it", x.can(), 3);
            }
            due("no rows", x.known(0, 0, 0), true);
            due("none of both", x.can(), 0);
            due("one, missing", x.known(0, 1, 1), true);
            due("a million, missing", x.known(0, 1000000, 1000000), true);
            due("IS NULL", x.can(), 2);
            due("one has a value", x.known(0, 1000000, 999999), false);
            due("as known before", x.can(), 2);
            x.clear(0);
            x.miss(0, 999);
            x.add(0, 5, 1);
            due("one row in a thousand has a value", x.known(0, 1000000, 999999), true);
            due("IS NULL or not", x.can(), 3);
        }
    }

    private static void dictionaryOfRowsNow() {
        TruthScan x = whole(1, 5, 1, 3, 5, 5);
        x.miss(0, 1);
        x.known(0, 6, 0);
        due("of three values", x.dictionary(0), true);
        inDue(x, 2, 5, 3, 1);
        inDue(x, 3, 1, 5);
        inDue(x, 1, 2, 4);
        x.clear(0);
        inDue(x, 2, 1, 3, 5);
        x.add(0, 4, 1);
        inDue(x, 1, 4);
        due("of the rows that are there now", x.dictionary(0), true);
        inDue(x, 2, 4);
        inDue(x, 1, 1, 3, 5);
    }

    private static void dictionaryNoSuch() {
        TruthScan x = whole(1);
        for (int no : new int[] {-1, 1, 15, 16, MIN, MIN + 1, MAX - 1, MAX}) {
            due("column " + no, x.dictionary(no), false);
        }
        due("nothing is known", x.dictionary(0), false);
        x.known(0, 1, 0);
        due("known", x.dictionary(0), true);
        x.unknown(0);
        due("nothing is known again", x.dictionary(0), false);
        x.known(0, 1, 0);
        compared(x, 0, EQUAL, 1);
        due("the old dictionary is gone", x.can(), 2);
    }

    private static void dictionaryWithoutLeast() {
        TruthScan x = whole();
        x.known(0, 0, 0);
        x.add(0, 5, 1);
        due("no rows when it was told", x.dictionary(0), false);
        x.clear(0);
        x.miss(0, 1);
        x.known(0, 9, 9);
        x.add(0, 5, 1);
        due("no values when it was told", x.dictionary(0), false);
        x.known(0, 9, 8);
        due("a value when it was told", x.dictionary(0), true);
    }

    private static void dictionaryWithoutValues() {
        TruthScan x = whole(5, 6);
        x.known(0, 2, 0);
        due("two values", x.dictionary(0), true);
        x.clear(0);
        due("no rows", x.dictionary(0), false);
        x.miss(0, 1000);
        due("a thousand without values", x.dictionary(0), false);
        inDue(x, 2, 5, 6);
        x.clear(0);
        x.miss(0, 999);
        x.add(0, 5, 1);
        due("one value in a thousand rows", x.dictionary(0), true);
        inDue(x, 2, 5);
        inDue(x, 1, 6);
    }

    private static void dictionaryOfHundred() {
        TruthScan x = whole();
        for (int i = 0; i < 99; i++) {
            x.add(0, i, 2);
        }
        x.add(0, Long.MAX_VALUE, 1);
        x.known(0, 5, 0);
        due("a hundred", x.dictionary(0), true);
        due("99 is none of them", canBeEqual(x, 99), 1);
        due("98 is one", canBeEqual(x, 98), 3);
        due("the greatest is one", canBeEqual(x, Long.MAX_VALUE), 3);
        x.add(0, 0, 700);
        due("some of them once more", x.dictionary(0), true);
        x.add(0, 99, 1);
        due("a hundred and one", x.dictionary(0), false);
        due("99 came not", canBeEqual(x, 99), 1);
        due("0 stays", canBeEqual(x, 0), 3);
        due("the greatest stays", canBeEqual(x, Long.MAX_VALUE), 3);
        TruthScan y = whole();
        for (int i = 0; i < 400; i++) {
            y.add(0, i, 1);
        }
        y.known(0, 400, 0);
        due("four hundred", y.dictionary(0), false);
        due("none", canBeEqual(y, 200), 3);
    }

    private static void dictionaryBounds() {
        long[][] cases = {{10, 20, 1}, {10, 10, 1}, {20, 20, 1}, {11, 19, 1}, {9, 15, 0}, {15, 21, 0}, {9, 21, 0},
            {Long.MIN_VALUE, 15, 0}, {15, Long.MAX_VALUE, 0}, {21, 9, 0}, {20, 10, 1}};
        for (long[] c : cases) {
            TruthScan x = whole(10, 20);
            x.known(0, 2, 0);
            x.clear(0);
            x.add(0, c[0], 1);
            x.add(0, c[1], 1);
            due("of " + c[0] + " and " + c[1], x.dictionary(0), c[2] == 1);
            due("18 may be unless there is one", canBeEqual(x, 18), c[2] == 1 ? 1 : 3);
        }
        TruthScan y = whole(Long.MIN_VALUE, Long.MAX_VALUE);
        y.known(0, 2, 0);
        due("from end to end", y.dictionary(0), true);
        due("nothing between", canBeEqual(y, 0), 1);
        TruthScan z = texts("b", "d");
        z.known(0, 2, 0);
        z.clear(0);
        row(z, "b\0");
        row(z, "d");
        due("texts between", z.dictionary(0), true);
        row(z, "d\0");
        due("a text above", z.dictionary(0), false);
        z.clear(0);
        row(z, "");
        due("the empty text below", z.dictionary(0), false);
        textCompared(z, EQUAL, "b\0");
        due("the old one stays", z.can(), 3);
        textCompared(z, EQUAL, "c");
        due("without others", z.can(), 1);
    }

    private static void unknownAgain() {
        TruthScan x = whole(5);
        x.column(WHOLE);
        x.known(0, 1, 0);
        x.known(1, 0, 0);
        x.dictionary(0);
        due("= 5", canBeEqual(x, 5), 2);
        due("unknown", x.unknown(0), true);
        due("each can be", canBeEqual(x, 5), 7);
        due("unknown already", x.unknown(0), true);
        rowsDue(x, 0, 1);
        x.forget();
        x.step(IS_NULL, 1, 0, 0, 0);
        due("the other is known", x.can(), 0);
        x.clear(0);
        due("no values to know", x.known(0, 1, 0), false);
        due("still nothing", canBeEqual(x, 5), 7);
    }

    private static void unknownNoSuch() {
        TruthScan x = whole(5);
        x.known(0, 1, 0);
        for (int no : new int[] {-1, 1, 15, 16, MIN, MIN + 1, MAX - 1, MAX}) {
            due("column " + no, x.unknown(no), false);
        }
        due("what is known stays", canBeEqual(x, 5), 2);
    }

    private static void canAdded() {
        for (int set = 0; set < 8; set++) {
            TruthScan x = new TruthScan();
            stepThatCanBe(x, 0, set);
            due("the set " + set, x.can(), set);
        }
    }

    private static void canNoCondition() {
        TruthScan x = whole();
        due("no steps", x.can(), 2);
        x.step(IS_NULL, 0, 0, 0, 0);
        due("one waits, without rows", x.can(), 3);
        x.step(IS_NULL, 0, 0, 0, 0);
        due("two wait", x.can(), NONE);
        x.step(OR, 0, 0, 0, 0);
        due("one waits", x.can(), 3);
        x.step(OR, 0, 0, 0, 0);
        due("one is too few", x.can(), NONE);
        x.step(IS_NULL, 0, 0, 0, 0);
        due("and stays so", x.can(), NONE);
        x.forget();
        due("no steps again", x.can(), 2);
    }

    // What the tests have in common

    private static TruthScan whole(long... values) {
        TruthScan x = new TruthScan();
        x.column(WHOLE);
        for (long value : values) {
            x.add(0, value, 1);
        }
        return x;
    }

    private static TruthScan texts(String... values) {
        TruthScan x = new TruthScan();
        x.column(TEXT);
        for (String value : values) {
            row(x, value);
        }
        return x;
    }

    private static void row(TruthScan x, String value) {
        feedBytes(x, value.getBytes(StandardCharsets.ISO_8859_1));
        due("the row " + value, x.addText(0, value.length()), true);
    }

    /** Two columns of bools whose comparison with the literal 0 has each pair of truths, in their order. */
    private static TruthScan truthTable() {
        TruthScan x = new TruthScan();
        x.column(BOOL);
        x.column(BOOL);
        for (int pair = 0; pair < 9; pair++) {
            addTruth(x, 0, pair / 3);
            addTruth(x, 1, pair % 3);
        }
        x.literal(BOOL, 1);
        return x;
    }

    private static void addTruth(TruthScan x, int column, int truth) {
        if (truth == 2) {
            x.miss(column, 1);
        } else {
            x.add(column, truth, 1);
        }
    }

    private static void compared(TruthScan x, int column, int operator, long value) {
        x.forget();
        x.step(WITH_LITERAL, column, operator, x.literal(WHOLE, value), 0);
    }

    private static void textCompared(TruthScan x, int operator, String value) {
        x.forget();
        feedBytes(x, value.getBytes(StandardCharsets.ISO_8859_1));
        x.step(WITH_LITERAL, 0, operator, x.literalText(value.length()), 0);
    }

    private static int canBeEqual(TruthScan x, long value) {
        compared(x, 0, EQUAL, value);
        return x.can();
    }

    private static void truthsDue(String what, TruthScan x, String truths) {
        int trues = 0;
        for (int row = 0; row < truths.length(); row++) {
            trues += truths.charAt(row) == '1' ? 1 : 0;
        }
        due(what + ", scan", x.scan(truths.length()), trues);
        for (int row = 0; row < truths.length(); row++) {
            due(what + ", row " + row, x.truth(row), truths.charAt(row) - '0');
        }
        due(what + ", no row behind", x.truth(truths.length()), NONE);
    }

    /** How many rows a column has, seen from both sides. */
    private static void rowsDue(TruthScan x, int column, int rows) {
        x.forget();
        x.step(IS_NULL, column, 0, 0, 0);
        due(rows + " rows in column " + column, x.scan(rows) != NONE, true);
        due("no more than " + rows + " rows in column " + column, x.scan(rows + 1), NONE);
    }

    private static void conditionDue(String kinds, boolean isOne) {
        TruthScan x = whole(1);
        for (int i = 0; i < kinds.length(); i++) {
            due("step " + i + " of " + kinds, x.step(kinds.charAt(i) - '0', 0, 0, 0, 0), i);
        }
        due("scan(0) of " + kinds, x.scan(0), isOne ? 0 : NONE);
        due("scan(1) of " + kinds, x.scan(1) != NONE, isOne);
        due("can of " + kinds, x.can() != NONE, isOne);
    }

    private static void orderDue(String what, byte[] less, byte[] more) {
        TruthScan x = new TruthScan();
        x.column(TEXT);
        x.column(TEXT);
        byte[][] mine = {less, more, less};
        byte[][] others = {more, less, less};
        for (int i = 0; i < 3; i++) {
            feedBytes(x, mine[i]);
            due(what + ", a row", x.addText(0, mine[i].length), true);
            feedBytes(x, others[i]);
            due(what + ", a row", x.addText(1, others[i].length), true);
        }
        String[] wanted = {"001", "110", "100", "101", "010", "011"};
        for (int operator = 0; operator < 6; operator++) {
            x.forget();
            x.step(WITH_COLUMN, 0, operator, 1, 0);
            truthsDue(what + " by " + operator, x, wanted[operator]);
        }
    }

    private static void canDueByOperator(TruthScan x, long[] literals, int[][] wanted) {
        for (int operator = 0; operator < 6; operator++) {
            for (int i = 0; i < literals.length; i++) {
                compared(x, 0, operator, literals[i]);
                due("operator " + operator + " with " + literals[i], x.can(), wanted[operator][i]);
            }
        }
    }

    private static void inDue(TruthScan x, int want, long... values) {
        x.forget();
        for (long value : values) {
            x.literal(WHOLE, value);
        }
        x.step(IN, 0, 0, 0, values.length);
        due("IN " + Arrays.toString(values), x.can(), want);
    }

    private static void columnsDue(int operator, long least, long greatest, long otherLeast, long otherGreatest, int want) {
        TruthScan x = whole(greatest, least);
        x.column(WHOLE);
        x.add(1, otherLeast, 1);
        x.add(1, otherGreatest, 1);
        x.known(0, 2, 0);
        x.known(1, 2, 0);
        x.step(WITH_COLUMN, 0, operator, 1, 0);
        due(least + ".." + greatest + " by " + operator + " with " + otherLeast + ".." + otherGreatest, x.can(), want);
    }

    private static void setsDue(int kind, String[] wanted) {
        for (int a = 0; a < 8; a++) {
            for (int b = 0; b < 8; b++) {
                TruthScan x = new TruthScan();
                stepThatCanBe(x, 0, a);
                stepThatCanBe(x, 1, b);
                x.step(kind, 0, 0, 0, 0);
                due(a + " and " + b, x.can(), wanted[a].charAt(b) - '0');
            }
        }
    }

    /** Makes a column whose comparison with 5 can be just the given truths. */
    private static void stepThatCanBe(TruthScan x, int column, int set) {
        x.column(WHOLE);
        if ((set & 2) != 0) {
            x.add(column, 5, 1);
        }
        if ((set & 1) != 0) {
            x.add(column, 6, 1);
        }
        int missing = set >> 2;
        due("known for the set " + set, x.known(column, missing + ((set & 3) != 0 ? 1 : 0), missing), true);
        x.step(WITH_LITERAL, column, EQUAL, x.literal(WHOLE, 5), 0);
    }

    /** Bytes that differ from their neighbours, those above 127 among them. */
    private static byte[] text(int length) {
        byte[] bytes = new byte[length];
        for (int i = 0; i < length; i++) {
            bytes[i] = (byte) (7 + 83 * i);
        }
        return bytes;
    }

    private static void feedBytes(TruthScan x, byte[] bytes) {
        for (int from = 0; from < bytes.length; from += 20) {
            int[] fed = new int[5];
            for (int i = from; i < from + 20 && i < bytes.length; i++) {
                fed[(i - from) / 4] |= (bytes[i] & 255) << (24 - i % 4 * 8);
            }
            due("room for the bytes from " + from, x.feed(fed[0], fed[1], fed[2], fed[3], fed[4]), true);
        }
    }
}
