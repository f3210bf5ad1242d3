/** Rows of points put in order by weights; the promises are numbered in DOC.md. */
public final class WeightOrder {
    private static final int LAST_POINT = 1114111;
    private static final int LAST_CLASS = 254;
    private static final int LAST_WEIGHT = 0xFFFF;
    private static final int LAST_ROW = 3;
    private static final int LAST_WHICH = 3;
    private static final int LAST_STRENGTH = 4;
    private static final int MOST_CALLS = 512;
    private static final int MOST_LINES = 500;
    private static final int MOST_LINE_POINTS = 3;
    private static final int MOST_LINE_ELEMENTS = 8;
    private static final int MOST_ROW_POINTS = 200;
    // Every point of a row brings the elements of one line at the most.
    private static final int MOST_ROW_ELEMENTS = MOST_ROW_POINTS * MOST_LINE_ELEMENTS;
    private static final int IMPLICIT_BASE = 0xFBC0;
    private static final int IMPLICIT_SPLIT = 0x8000;
    private static final int NONE = -1;

    private final Table classes;
    private final Lines lines;
    private final Row[] rows;
    private final Finder finder;
    private final Elements elements;
    private final Elements otherElements;

    public WeightOrder() {
        classes = new Table(MOST_CALLS);
        lines = new Lines();
        rows = new Row[] {new Row(), new Row(), new Row(), new Row()};
        finder = new Finder(classes, lines);
        elements = new Elements();
        otherElements = new Elements();
    }

    public void order(int point, int c) throws IllegalArgumentException {
        if (!isWithin(point, LAST_POINT) || !isWithin(c, LAST_CLASS)) {
            throw new IllegalArgumentException();
        }
        classes.put(point, c);
    }

    public int line(int n, int a, int b, int c) throws IllegalArgumentException, IndexOutOfBoundsException {
        if (n < 1 || n > MOST_LINE_POINTS || !arePoints(a, b, c)) {
            throw new IllegalArgumentException();
        }
        long key = keyOf(n, a, b, c);
        if (lines.find(key) == null && lines.isFull()) {
            throw new IndexOutOfBoundsException();
        }
        lines.tell(key);
        return lines.size;
    }

    public int element(int p, int s, int t, boolean variable)
            throws IllegalArgumentException, IndexOutOfBoundsException {
        if (!isWithin(p, LAST_WEIGHT) || !isWithin(s, LAST_WEIGHT) || !isWithin(t, LAST_WEIGHT)) {
            throw new IllegalArgumentException();
        }
        Line last = lines.toldLast;
        if (last == null) {
            throw new IllegalArgumentException();
        }
        if (last.isFull()) {
            throw new IndexOutOfBoundsException();
        }
        last.append(pack(p, s, t), variable);
        return last.size;
    }

    public int add(int r, int point) throws IllegalArgumentException, IndexOutOfBoundsException {
        if (!isWithin(r, LAST_ROW) || !isWithin(point, LAST_POINT)) {
            throw new IllegalArgumentException();
        }
        if (rows[r].isFull()) {
            throw new IndexOutOfBoundsException();
        }
        rows[r].append(point);
        return rows[r].size;
    }

    public int clear(int r) throws IllegalArgumentException {
        if (!isWithin(r, LAST_ROW)) {
            throw new IllegalArgumentException();
        }
        int had = rows[r].size;
        rows[r].size = 0;
        return had;
    }

    public int count(int r, boolean shifted) throws IllegalArgumentException {
        if (!isWithin(r, LAST_ROW)) {
            throw new IllegalArgumentException();
        }
        finder.findElements(rows[r], shifted, elements);
        return elements.size;
    }

    public int weight(int r, boolean shifted, int i, int which) throws IllegalArgumentException {
        if (!isWithin(r, LAST_ROW) || !isWithin(which, LAST_WHICH)) {
            throw new IllegalArgumentException();
        }
        finder.findElements(rows[r], shifted, elements);
        if (!isWithin(i, elements.size - 1)) {
            throw new IllegalArgumentException();
        }
        return weightOf(elements.packed[i], which);
    }

    public int compare(int r, int u, int strength, boolean shifted) throws IllegalArgumentException {
        if (!isWithin(r, LAST_ROW) || !isWithin(u, LAST_ROW) || strength < 1 || strength > LAST_STRENGTH) {
            throw new IllegalArgumentException();
        }
        finder.findElements(rows[r], shifted, elements);
        finder.findElements(rows[u], shifted, otherElements);
        // Without SHIFTED every fourth is 0 and so strength 4 tells no more than 3.
        int result = 0;
        for (int which = 0; which < strength && result == 0; which++) {
            result = levelOrder(elements, otherElements, which);
        }
        return result;
    }

    private static boolean isWithin(int number, int last) {
        return number >= 0 && number <= last;
    }

    private static boolean arePoints(int a, int b, int c) {
        return isWithin(a, LAST_POINT) && isWithin(b, LAST_POINT) && isWithin(c, LAST_POINT);
    }

    private static long keyOf(int n, int a, int b, int c) {
        long key = longerKey(0, a);
        if (n > 1) {
            key = longerKey(key, b);
        }
        if (n > 2) {
            key = longerKey(key, c);
        }
        return key;
    }

    // A point takes 21 bits; 1 is added to it, so that point 0 is told apart from no point at all.
    private static long longerKey(long key, int point) {
        return key << 21 | (point + 1);
    }

    // The lowest 16 bits are left for the fourth weight.
    private static long pack(int p, int s, int t) {
        return (long) p << 48 | (long) s << 32 | (long) t << 16;
    }

    private static int weightOf(long packed, int which) {
        return (int) (packed >>> (48 - 16 * which)) & LAST_WEIGHT;
    }

    private static int levelOrder(Elements first, Elements second, int which) {
        int i = first.nextWithWeight(0, which);
        int j = second.nextWithWeight(0, which);
        for (int turn = 0; turn < MOST_ROW_ELEMENTS && i < first.size && j < second.size; turn++) {
            int result = Integer.compare(weightOf(first.packed[i], which), weightOf(second.packed[j], which));
            if (result != 0) {
                return result;
            }
            i = first.nextWithWeight(i + 1, which);
            j = second.nextWithWeight(j + 1, which);
        }
        if (i < first.size) {
            return 1;
        }
        return j < second.size ? -1 : 0;
    }

    /** Numbers under keys; the keys are kept in order, so that one is found by halving. */
    private static final class Table {
        private final long[] keys;
        private final int[] values;
        private int size;

        private Table(int most) {
            keys = new long[most];
            values = new int[most];
        }

        private int valueOf(long key, int otherwise) {
            int place = placeOf(key);
            return place < size && keys[place] == key ? values[place] : otherwise;
        }

        private void put(long key, int value) {
            int place = placeOf(key);
            if (place < size && keys[place] == key) {
                values[place] = value;
            } else if (size < keys.length) {
                insert(place, key, value);
            }
            // A full table takes no new key: that needs more calls than an object is used for.
        }

        private void insert(int place, long key, int value) {
            System.arraycopy(keys, place, keys, place + 1, size - place);
            System.arraycopy(values, place, values, place + 1, size - place);
            keys[place] = key;
            values[place] = value;
            size++;
        }

        private int placeOf(long key) {
            int low = 0;
            int high = size;
            while (low < high) {
                int middle = (low + high) >>> 1;
                if (keys[middle] < key) {
                    low = middle + 1;
                } else {
                    high = middle;
                }
            }
            return low;
        }
    }

    /** The elements of one LINE. */
    private static final class Line {
        private final long[] packed = new long[MOST_LINE_ELEMENTS];
        private final boolean[] variable = new boolean[MOST_LINE_ELEMENTS];
        private int size;

        private boolean isFull() {
            return size == packed.length;
        }

        private void append(long weights, boolean isVariable) {
            packed[size] = weights;
            variable[size] = isVariable;
            size++;
        }
    }

    /** All LINES by their keys, and the one told last. */
    private static final class Lines {
        private final Table numbers = new Table(MOST_LINES);
        private final Line[] made = new Line[MOST_LINES];
        private int size;
        private Line toldLast;

        private boolean isFull() {
            return size == made.length;
        }

        private Line find(long key) {
            int number = numbers.valueOf(key, NONE);
            return number == NONE ? null : made[number];
        }

        private void tell(long key) {
            Line line = find(key);
            if (line == null) {
                line = new Line();
                numbers.put(key, size);
                made[size] = line;
                size++;
            }
            line.size = 0;
            toldLast = line;
        }
    }

    /** The points of one ROW. */
    private static final class Row {
        private final int[] points = new int[MOST_ROW_POINTS];
        private int size;

        private boolean isFull() {
            return size == points.length;
        }

        private void append(int point) {
            points[size] = point;
            size++;
        }
    }

    /** The elements that were found for a ROW, each with its fourth weight. */
    private static final class Elements {
        private final long[] packed = new long[MOST_ROW_ELEMENTS];
        private int size;
        private boolean shifted;
        private boolean behindVariable;

        private void begin(boolean isShifted) {
            size = 0;
            shifted = isShifted;
            behindVariable = false;
        }

        private void append(long weights, boolean variable) {
            if (size < packed.length) {
                packed[size] = shifted ? shift(weights, variable) : weights;
                size++;
            }
        }

        private void appendLine(Line line) {
            for (int i = 0; i < line.size; i++) {
                append(line.packed[i], line.variable[i]);
            }
        }

        private void appendImplicit(int point) {
            append(pack(IMPLICIT_BASE + point / IMPLICIT_SPLIT, 0x20, 2), false);
            append(pack(point % IMPLICIT_SPLIT + IMPLICIT_SPLIT, 0, 0), false);
        }

        private long shift(long weights, boolean variable) {
            int p = weightOf(weights, 0);
            if (p > 0) {
                behindVariable = variable;
                return variable ? p : weights | LAST_WEIGHT;
            }
            return behindVariable || weights == 0 ? 0 : weights | LAST_WEIGHT;
        }

        private int nextWithWeight(int from, int which) {
            int i = from;
            while (i < size && weightOf(packed[i], which) == 0) {
                i++;
            }
            return i;
        }
    }

    /** Takes a copy of a ROW apart; the points from start to end are those that are left. */
    private static final class Finder {
        private final Table classes;
        private final Lines lines;
        private final int[] points = new int[MOST_ROW_POINTS];
        private final int[] pointClasses = new int[MOST_ROW_POINTS];
        private int start;
        private int end;
        // S of the document: its key, how many points it has, and its LINE.
        private long key;
        private int length;
        private Line line;

        private Finder(Table classes, Lines lines) {
            this.classes = classes;
            this.lines = lines;
        }

        private void findElements(Row row, boolean shifted, Elements into) {
            load(row);
            into.begin(shifted);
            for (int turn = 0; turn < MOST_ROW_POINTS && start < end; turn++) {
                takeNext(into);
            }
        }

        private void load(Row row) {
            start = 0;
            end = row.size;
            for (int i = 0; i < end; i++) {
                points[i] = row.points[i];
                pointClasses[i] = classes.valueOf(points[i], 0);
            }
        }

        private void takeNext(Elements into) {
            seekBeginning();
            if (line == null) {
                into.appendImplicit(points[start]);
                start++;
            } else {
                start += length;
                seekBehind();
                into.appendLine(line);
            }
        }

        private void seekBeginning() {
            line = null;
            long tried = 0;
            for (int n = 1; n <= MOST_LINE_POINTS && start + n <= end; n++) {
                tried = longerKey(tried, points[start + n - 1]);
                Line found = lines.find(tried);
                if (found != null) {
                    become(tried, n, found);
                }
            }
        }

        private void seekBehind() {
            int highestPassed = 0;
            for (int i = start; i < end && pointClasses[i] > 0 && length < MOST_LINE_POINTS; i++) {
                Line longer = null;
                if (pointClasses[i] > highestPassed) {
                    longer = lines.find(longerKey(key, points[i]));
                }
                if (longer == null) {
                    highestPassed = Math.max(highestPassed, pointClasses[i]);
                } else {
                    become(longerKey(key, points[i]), length + 1, longer);
                    closeGap(i);
                }
            }
        }

        private void become(long newKey, int newLength, Line newLine) {
            key = newKey;
            length = newLength;
            line = newLine;
        }

        // The points passed over move up to the gap, so that what is left stays in one piece.
        private void closeGap(int gap) {
            System.arraycopy(points, start, points, start + 1, gap - start);
            System.arraycopy(pointClasses, start, pointClasses, start + 1, gap - start);
            start++;
        }
    }
}
