import java.util.ArrayList;
import java.util.Collections;
import java.util.List;
import java.util.Random;
import java.util.TreeSet;

/**
 * Random runs of calls (the same ones each time) against a plain model of the document. The model tries
 * out values where the program compares bounds: between two bounds that differ it puts a value on each
 * side of every literal.
 */
public final class ModelTest {
    private static final int RUNS = 8000;
    private static final int CALLS = 512;

    private static int wrong = 0;

    public static void main(String[] args) {
        for (int run = 0; run < RUNS && wrong < 20; run++) {
            new Run(run).play();
        }
        System.out.println(wrong == 0 ? "the model agrees in " + RUNS + " runs" : wrong + " answers differ");
        if (wrong != 0) {
            System.exit(1);
        }
    }

    /** A text is held as characters 0 to 255, whose order in Java is the document's. */
    private record Value(int type, long number, String text) implements Comparable<Value> {
        @Override
        public int compareTo(Value other) {
            return type == 2 ? text.compareTo(other.text) : Long.compare(number, other.number);
        }
    }

    private static final class Column {
        final int type;
        final List<Value> rows = new ArrayList<>();
        boolean known;
        int allRows;
        int missing;
        Value least;
        Value greatest;
        TreeSet<Value> dictionary;

        Column(int type) {
            this.type = type;
        }

        TreeSet<Value> values() {
            TreeSet<Value> values = new TreeSet<>();
            for (Value value : rows) {
                if (value != null) {
                    values.add(value);
                }
            }
            return values;
        }

        int bytes() {
            int bytes = 0;
            for (Value value : rows) {
                bytes += value == null || type != 2 ? 0 : value.text.length();
            }
            return bytes;
        }
    }

    private record Step(int kind, Column column, int operator, Column other, List<Value> literals) {
    }

    private static final class Model {
        final List<Column> columns = new ArrayList<>();
        final List<Value> literals = new ArrayList<>();
        final List<Step> steps = new ArrayList<>();
        final StringBuilder tape = new StringBuilder();
        List<Integer> scanned = new ArrayList<>();

        boolean feed(int... numbers) {
            if (tape.length() + 20 > 1000) {
                return false;
            }
            for (int number : numbers) {
                for (int i = 3; i >= 0; i--) {
                    tape.append((char) ((number >> (8 * i)) & 255));
                }
            }
            return true;
        }

        int column(int type) {
            if (columns.size() == 16 || type < 0 || type > 2) {
                return -1;
            }
            columns.add(new Column(type));
            return columns.size() - 1;
        }

        Column at(int number) {
            return number >= 0 && number < columns.size() ? columns.get(number) : null;
        }

        static boolean isNumber(int type, long value) {
            return type == 1 || type == 0 && (value == 0 || value == 1);
        }

        boolean add(int column, long value, int n) {
            Column c = at(column);
            return c != null && isNumber(c.type, value) && append(c, new Value(c.type, value, null), n);
        }

        boolean miss(int column, int n) {
            return at(column) != null && append(at(column), null, n);
        }

        static boolean append(Column c, Value value, int n) {
            if (n < 1 || (long) n + c.rows.size() > 1000) {
                return false;
            }
            for (int i = 0; i < n; i++) {
                c.rows.add(value);
            }
            return true;
        }

        String cut(int n) {
            if (n < 0 || n > tape.length()) {
                return null;
            }
            String text = tape.substring(0, n);
            tape.setLength(0);
            return text;
        }

        boolean addText(int column, int n) {
            String text = cut(n);
            Column c = at(column);
            if (text == null || c == null || c.type != 2 || n > 255 || c.bytes() + n > 8000) {
                return false;
            }
            return append(c, new Value(2, 0, text), 1);
        }

        int literalText(int n) {
            String text = cut(n);
            return text == null || n > 255 ? -1 : keep(new Value(2, 0, text));
        }

        int literal(int type, long value) {
            return isNumber(type, value) ? keep(new Value(type, value, null)) : -1;
        }

        int keep(Value value) {
            if (literals.size() == 64) {
                return -1;
            }
            literals.add(value);
            return literals.size() - 1;
        }

        int step(int kind, int column, int operator, int other, int many) {
            if (steps.size() == 64 || kind < 0 || kind > 7) {
                return -1;
            }
            Column c = null;
            Column o = null;
            List<Value> taken = new ArrayList<>();
            if (kind <= 4) {
                c = at(column);
                if (c == null) {
                    return -1;
                }
                if ((kind == 3 || kind == 4) && (operator < 0 || operator > 5)) {
                    return -1;
                }
                if (kind == 4) {
                    o = at(other);
                    if (o == null || o.type != c.type) {
                        return -1;
                    }
                }
                if (kind == 2 || kind == 3) {
                    long last = (long) other + (kind == 2 ? many : 1);
                    if (other < 0 || last <= other || last > literals.size()) {
                        return -1;
                    }
                    taken.addAll(literals.subList(other, (int) last));
                    for (Value value : taken) {
                        if (value.type != c.type) {
                            return -1;
                        }
                    }
                }
            }
            steps.add(new Step(kind, c, operator, o, taken));
            return steps.size() - 1;
        }

        boolean isCondition() {
            int waits = 0;
            for (Step s : steps) {
                if (s.kind >= 5 && waits < (s.kind == 5 ? 1 : 2)) {
                    return false;
                }
                waits += s.kind < 5 ? 1 : s.kind == 5 ? 0 : -1;
            }
            return steps.isEmpty() || waits == 1;
        }

        int scan(int n) {
            if (n < 0 || n > 1000 || !isCondition()) {
                return -1;
            }
            for (Step s : steps) {
                if (s.column != null && s.column.rows.size() < n || s.other != null && s.other.rows.size() < n) {
                    return -1;
                }
            }
            scanned = new ArrayList<>();
            for (int row = 0; row < n; row++) {
                scanned.add(steps.isEmpty() ? 1 : truthAt(row));
            }
            return Collections.frequency(scanned, 1);
        }

        int truthAt(int row) {
            List<Integer> waiting = new ArrayList<>();
            for (Step s : steps) {
                if (s.kind < 5) {
                    waiting.add(truthOf(s, row));
                    continue;
                }
                int last = waiting.remove(waiting.size() - 1);
                if (s.kind == 5) {
                    waiting.add(last == 2 ? 2 : 1 - last);
                    continue;
                }
                int first = waiting.remove(waiting.size() - 1);
                int deciding = s.kind - 6;
                if (first == deciding || last == deciding) {
                    waiting.add(deciding);
                } else {
                    waiting.add(first == 2 || last == 2 ? 2 : 1 - deciding);
                }
            }
            return waiting.get(0);
        }

        static int truthOf(Step s, int row) {
            Value value = s.column.rows.get(row);
            if (s.kind < 2) {
                return (value == null) == (s.kind == 0) ? 1 : 0;
            }
            if (value == null) {
                return 2;
            }
            if (s.kind == 2) {
                return s.literals.contains(value) ? 1 : 0;
            }
            Value other = s.kind == 3 ? s.literals.get(0) : s.other.rows.get(row);
            return other == null ? 2 : isSo(s.operator, value.compareTo(other)) ? 1 : 0;
        }

        static boolean isSo(int operator, int order) {
            boolean[] so = {order == 0, order != 0, order < 0, order <= 0, order > 0, order >= 0};
            return so[operator];
        }

        int chosen(int k) {
            int seen = 0;
            for (int row = 0; row < scanned.size(); row++) {
                if (scanned.get(row) == 1 && seen++ == k) {
                    return row;
                }
            }
            return -1;
        }

        boolean known(int column, int rows, int missing) {
            Column c = at(column);
            if (c == null || missing < 0 || missing > rows || rows > 1000000) {
                return false;
            }
            TreeSet<Value> values = c.values();
            if (values.isEmpty() && missing < rows) {
                return false;
            }
            c.known = true;
            c.allRows = rows;
            c.missing = missing;
            c.least = values.isEmpty() ? null : values.first();
            c.greatest = values.isEmpty() ? null : values.last();
            c.dictionary = null;
            return true;
        }

        boolean dictionary(int column) {
            Column c = at(column);
            if (c == null || !c.known || c.least == null) {
                return false;
            }
            TreeSet<Value> values = c.values();
            if (values.isEmpty() || values.size() > 100 || values.first().compareTo(c.least) < 0
                    || values.last().compareTo(c.greatest) > 0) {
                return false;
            }
            c.dictionary = values;
            return true;
        }

        int can() {
            if (!isCondition()) {
                return -1;
            }
            List<Integer> waiting = new ArrayList<>(List.of(2));
            for (Step s : steps) {
                if (s.kind < 5) {
                    waiting.add(canOf(s));
                    continue;
                }
                int last = waiting.remove(waiting.size() - 1);
                int first = s.kind == 5 ? 0 : waiting.remove(waiting.size() - 1);
                waiting.add(s.kind == 5 ? swapped(last) : s.kind == 6 ? both(first, last)
                        : swapped(both(swapped(first), swapped(last))));
            }
            return waiting.get(waiting.size() - 1);
        }

        static int swapped(int set) {
            return set & 4 | (set & 1) * 2 | (set & 2) / 2;
        }

        static int both(int a, int b) {
            int unknown = (a & 4) != 0 && (b & 6) != 0 || (b & 4) != 0 && (a & 6) != 0 ? 4 : 0;
            return (a | b) & 1 | a & b & 2 | unknown;
        }

        static int canOf(Step s) {
            if (!s.column.known || s.other != null && !s.other.known) {
                return s.kind < 2 ? 3 : 7;
            }
            boolean some = s.column.missing < s.column.allRows;
            boolean gaps = s.column.missing > 0;
            if (s.kind < 2) {
                int isNull = (gaps ? 2 : 0) | (some ? 1 : 0);
                return s.kind == 0 ? isNull : swapped(isNull);
            }
            if (s.other != null) {
                some &= s.other.missing < s.other.allRows;
                gaps |= s.other.missing > 0;
            }
            return (gaps ? 4 : 0) | (some ? canWithValues(s) : 0);
        }

        /** Values are put on a scale of even places, with one more place between two neighbours. */
        static int canWithValues(Step s) {
            TreeSet<Value> marks = new TreeSet<>(s.literals);
            marks.add(s.column.least);
            marks.add(s.column.greatest);
            if (s.column.dictionary != null) {
                marks.addAll(s.column.dictionary);
            }
            if (s.other != null) {
                marks.add(s.other.least);
                marks.add(s.other.greatest);
            }
            List<Integer> mine = places(marks, s.column, s.kind != 4);
            List<Integer> others = new ArrayList<>();
            if (s.kind == 4) {
                others = places(marks, s.other, false);
            }
            for (Value literal : s.literals) {
                others.add(place(marks, literal));
            }
            int can = 0;
            for (int place : mine) {
                if (s.kind == 2) {
                    can |= others.contains(place) ? 2 : 1;
                    continue;
                }
                for (int other : others) {
                    can |= isSo(s.operator, Integer.compare(place, other)) ? 2 : 1;
                }
            }
            return can;
        }

        static int place(TreeSet<Value> marks, Value value) {
            return 2 * marks.headSet(value).size();
        }

        static List<Integer> places(TreeSet<Value> marks, Column c, boolean withDictionary) {
            List<Integer> places = new ArrayList<>();
            if (withDictionary && c.dictionary != null) {
                for (Value value : c.dictionary) {
                    places.add(place(marks, value));
                }
                return places;
            }
            for (int at = place(marks, c.least); at <= place(marks, c.greatest); at++) {
                places.add(at);
            }
            return places;
        }
    }

    private static final class Run {
        final int number;
        final Random random;
        final boolean wild;
        final TruthScan x = new TruthScan();
        final Model m = new Model();
        final List<String> told = new ArrayList<>();
        int waits = 0;

        Run(int number) {
            this.number = number;
            this.random = new Random(number);
            this.wild = number % 4 == 0;
        }

        void play() {
            int columns = 1 + random.nextInt(wild ? 17 : 5);
            int kinds = random.nextInt(3);
            for (int i = 0; i < columns; i++) {
                int type = kinds == 0 ? number % 3 : random.nextInt(3);
                same("column " + type, x.column(type), m.column(type));
            }
            while (told.size() < CALLS && wrong < 20) {
                call();
            }
        }

        int pick(int size) {
            if (wild && random.nextInt(12) == 0) {
                int[] odd = {-1, -2, size, size + 1, Integer.MAX_VALUE, Integer.MIN_VALUE, Integer.MAX_VALUE - 1};
                return odd[random.nextInt(odd.length)];
            }
            return size > 0 ? random.nextInt(size) : 0;
        }

        long pickValue() {
            if (random.nextInt(20) == 0) {
                long[] odd = {Long.MIN_VALUE, Long.MAX_VALUE, 1L << 32, -1, 1L << 63 | 1};
                return odd[random.nextInt(odd.length)];
            }
            int range = random.nextInt(4);
            return range == 0 ? random.nextInt(300) : random.nextInt(range == 1 ? 2 : 6);
        }

        int pickMany() {
            return random.nextInt(wild ? 6 : 30) == 0 ? pick(1002) : 1 + random.nextInt(3);
        }

        void call() {
            switch (random.nextInt(24)) {
                case 0, 1 -> feed();
                case 2, 3 -> number();
                case 4, 5, 6 -> addText();
                case 7 -> {
                    int c = pick(m.columns.size());
                    int n = pickMany();
                    same("miss " + c + " " + n, x.miss(c, n), m.miss(c, n));
                }
                case 8 -> clear();
                case 9 -> literal();
                case 10 -> literalText();
                case 11, 12, 13, 14, 15 -> step();
                case 16 -> forget();
                case 17 -> scan();
                case 18 -> {
                    int k = pick(20);
                    same("chosen " + k, x.chosen(k), m.chosen(k));
                    int row = pick(20);
                    same("truth " + row, x.truth(row), row >= 0 && row < m.scanned.size() ? m.scanned.get(row) : -1);
                }
                case 19, 20 -> known();
                case 21 -> {
                    int c = pick(m.columns.size());
                    same("dictionary " + c, x.dictionary(c), m.dictionary(c));
                }
                case 22 -> unknown();
                default -> same("can", x.can(), m.can());
            }
        }

        void feed() {
            int a = random.nextInt(3) * 0x7f000000 + random.nextInt(2) * 0x10000;
            int b = random.nextInt();
            int times = wild && random.nextInt(10) == 0 ? 13 : 1;
            for (int i = 0; i < times; i++) {
                same("feed " + a + " " + b, x.feed(a, b, 3, 4, 5), m.feed(a, b, 3, 4, 5));
            }
        }

        void number() {
            int c = pick(m.columns.size());
            long value = pickValue();
            int n = pickMany();
            same("add " + c + " " + value + " " + n, x.add(c, value, n), m.add(c, value, n));
        }

        int pickLength() {
            return m.tape.length() > 20 ? pick(m.tape.length() + 1) : pick(4);
        }

        void addText() {
            int c = pick(m.columns.size());
            int n = pickLength();
            same("addText " + c + " " + n, x.addText(c, n), m.addText(c, n));
        }

        void literalText() {
            int n = pickLength();
            same("literalText " + n, x.literalText(n), m.literalText(n));
        }

        void clear() {
            if (random.nextInt(4) == 0) {
                int c = pick(m.columns.size());
                boolean cleared = m.at(c) != null;
                if (cleared) {
                    m.at(c).rows.clear();
                }
                same("clear " + c, x.clear(c), cleared);
            }
        }

        void literal() {
            int type = pick(3);
            long value = pickValue();
            same("literal " + type + " " + value, x.literal(type, value), m.literal(type, value));
        }

        void step() {
            int kind = waits > 1 && random.nextInt(2) == 0 ? 5 + random.nextInt(3) : pick(wild ? 8 : 5);
            int c = pick(m.columns.size());
            int operator = pick(6);
            int other = kind == 4 ? pick(m.columns.size()) : pick(m.literals.size());
            int many = pick(4);
            int made = m.step(kind, c, operator, other, many);
            String call = "step " + kind + " " + c + " " + operator + " " + other + " " + many;
            same(call, x.step(kind, c, operator, other, many), made);
            if (made >= 0) {
                waits += kind < 5 ? 1 : kind == 5 ? 0 : -1;
                same("can", x.can(), m.can());
                scan();
            }
        }

        void forget() {
            if (random.nextInt(3) == 0) {
                x.forget();
                told.add("forget");
                m.steps.clear();
                m.literals.clear();
                waits = 0;
            }
        }

        void scan() {
            int rows = 1000;
            for (Step s : m.steps) {
                rows = s.column == null ? rows : Math.min(rows, s.column.rows.size());
                rows = s.other == null ? rows : Math.min(rows, s.other.rows.size());
            }
            int n = random.nextInt(5) == 0 ? pick(1003) : pick(Math.min(rows, 30) + 1);
            int due = m.scan(n);
            same("scan " + n, x.scan(n), due);
            int last = m.scanned.size();
            for (int row = last; row >= 0 && row > last - 4; row--) {
                same("truth " + row, x.truth(row), row == last ? -1 : m.scanned.get(row));
            }
        }

        void known() {
            int c = pick(m.columns.size());
            int rows = pick(random.nextInt(9) == 0 ? 1000003 : 6);
            int missing = random.nextInt(3) == 0 ? 0 : pick(rows < 0 || rows > 2000000 ? 9 : rows + 1);
            same("known " + c + " " + rows + " " + missing, x.known(c, rows, missing), m.known(c, rows, missing));
        }

        void unknown() {
            int c = pick(m.columns.size());
            boolean there = m.at(c) != null;
            if (there) {
                m.at(c).known = false;
            }
            same("unknown " + c, x.unknown(c), there);
        }

        void same(String call, boolean got, boolean want) {
            same(call, got ? 1 : 0, want ? 1 : 0);
        }

        void same(String call, int got, int want) {
            told.add(call + " = " + got);
            // What calls answer behind the last one of a run is free.
            if (got != want && told.size() <= CALLS) {
                wrong++;
                int from = Math.max(0, told.size() - 12);
                System.out.println("run " + number + ": " + call + " answered " + got + ", the model says " + want
                        + "; before it: " + told.subList(from, told.size() - 1));
            }
        }
    }
}
