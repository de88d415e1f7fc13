import java.util.Random;

/**
 * Scan and can against one another, without a model: where what is known of the columns is so, a row can't
 * have a truth that can rules out. Random objects, the same ones each time.
 */
public final class AgreementTest {
    private static final int RUNS = 6000;
    private static final int ROWS = 12;
    private static final int COLUMNS = 3;

    private static int wrong = 0;
    private static int narrow = 0;

    public static void main(String[] args) {
        for (int run = 0; run < RUNS; run++) {
            play(run, new Random(run));
        }
        // A can that always answers 7 would agree with everything.
        if (narrow < RUNS) {
            wrong++;
            System.out.println("can ruled out something in " + narrow + " of " + RUNS * 4 + " conditions only");
        }
        System.out.println(wrong == 0 ? "scan and can agree" : wrong + " answers are not as due");
        if (wrong != 0) {
            System.exit(1);
        }
    }

    private static void play(int run, Random random) {
        TruthScan x = new TruthScan();
        int type = run % 3;
        int range = 1 + random.nextInt(4);
        for (int column = 0; column < COLUMNS; column++) {
            x.column(type);
            fill(x, column, type, range, random);
        }
        for (int i = 0; i < 4; i++) {
            x.forget();
            makeCondition(x, type, range, random);
            compare(run, x);
        }
    }

    private static void fill(TruthScan x, int column, int type, int range, Random random) {
        int missing = 0;
        int gaps = random.nextInt(4);
        for (int row = 0; row < ROWS; row++) {
            if (gaps == 3 || random.nextInt(6) < gaps) {
                missing++;
                x.miss(column, 1);
            } else if (type == 2) {
                putText(x, random.nextInt(range));
                x.addText(column, 1);
            } else {
                x.add(column, number(type, random.nextInt(range)), 1);
            }
        }
        if (!x.known(column, ROWS, missing)) {
            wrong++;
            System.out.println("known of " + ROWS + " rows, " + missing + " missing, is refused");
        }
        if (random.nextBoolean()) {
            x.dictionary(column);
        }
    }

    private static long number(int type, int value) {
        return type == 0 ? value % 2 : value - 1;
    }

    private static void putText(TruthScan x, int value) {
        x.feed(0x7E000000 + value * 0x01000000, 0, 0, 0, 0);
    }

    private static void makeCondition(TruthScan x, int type, int range, Random random) {
        for (int i = 0; i < 6; i++) {
            if (type == 2) {
                putText(x, random.nextInt(range));
                x.literalText(1);
            } else {
                x.literal(type, number(type, random.nextInt(range)));
            }
        }
        int leaves = 1 + random.nextInt(4);
        for (int waits = 0; waits < leaves; waits++) {
            int kind = random.nextInt(5);
            int other = random.nextInt(kind == 4 ? COLUMNS : 3);
            x.step(kind, random.nextInt(COLUMNS), random.nextInt(6), other, 1 + random.nextInt(3));
            if (random.nextInt(3) == 0) {
                x.step(5, 0, 0, 0, 0);
            }
        }
        for (int waits = leaves; waits > 1; waits--) {
            x.step(6 + random.nextInt(2), 0, 0, 0, 0);
        }
    }

    private static void compare(int run, TruthScan x) {
        int can = x.can();
        int trues = x.scan(ROWS);
        narrow += can < 7 ? 1 : 0;
        if (can < 0 || trues < 0) {
            wrong++;
            System.out.println("run " + run + ": can " + can + ", scan " + trues + " of a condition");
            return;
        }
        for (int row = 0; row < ROWS; row++) {
            int truth = x.truth(row);
            if (truth < 0 || (can & 1 << truth) == 0) {
                wrong++;
                System.out.println("run " + run + ": row " + row + " is " + truth + ", but can is " + can);
            }
        }
    }
}
