import java.util.Arrays;

/** Masters of tree rings: even series, robust means of them, dates, years of felling, sources. */
public final class RingMasters {
    public static final int NONE = -1;

    private static final int MOST_SERIES = 10;
    private static final int MOST_MASTERS = 8;
    private static final int LEAST_RINGS = 3;
    private static final int MOST_RINGS = 30;
    private static final int MOST_WIDTH = 900;
    private static final int MOST_EVENED = 400;
    private static final int MOST_YEAR = 500;
    private static final int MOST_SET = (1 << MOST_SERIES) - 1;
    private static final int LEAST_COMMON = 2;
    private static final int MOST_COMMON = 30;
    private static final int NO_DATE = -1000;
    private static final int MOST_SAPWOOD = 60;
    private static final int MOST_WEIGHT = 10000;
    private static final int MOST_BELOW = 1000;
    private static final int SAME_TREE_YEARS = 5;
    private static final int SAME_TREE_DIFFERENCE = 15;

    private final int[] pad;
    private int padLength;
    private final Row[] rows;
    private int rowCount;
    private final Mean[] means;
    private int meanCount;
    private final int[] weights;

    // Rows used again by every call, so that calls make no objects of their own.
    private final Robust robust;
    private final Gap tried;
    private final Gap nearest;
    private final Gap[] gaps;
    private final int[] dates;

    public RingMasters() {
        pad = new int[MOST_RINGS];
        padLength = 0;
        rows = new Row[MOST_SERIES];
        rowCount = 0;
        means = new Mean[MOST_MASTERS];
        meanCount = 0;
        weights = new int[MOST_SAPWOOD + 1];
        robust = new Robust();
        tried = new Gap();
        nearest = new Gap();
        gaps = new Gap[MOST_MASTERS];
        for (int i = 0; i < gaps.length; i++) {
            gaps[i] = new Gap();
        }
        dates = new int[MOST_MASTERS];
    }

    public int ring(int w) throws IllegalStateException, IllegalArgumentException {
        if (padLength >= MOST_RINGS) {
            throw new IllegalStateException("the pad is full");
        }
        if (w < 1 || w > MOST_WIDTH) {
            throw new IllegalArgumentException("no such width");
        }
        pad[padLength] = w;
        padLength++;
        return padLength;
    }

    public int series() throws IllegalStateException {
        if (rowCount >= MOST_SERIES) {
            throw new IllegalStateException("there are ten series");
        }
        if (padLength < LEAST_RINGS) {
            return NONE;
        }
        rows[rowCount] = new Row(evenedPad());
        rowCount++;
        padLength = 0;
        return rowCount - 1;
    }

    public int evened(int series, int k) throws IndexOutOfBoundsException {
        Row row = rowOf(series);
        if (k == -1) {
            return row.even.length;
        }
        if (k < 0 || k >= row.even.length) {
            throw new IndexOutOfBoundsException("no such ring");
        }
        return row.even[k];
    }

    public int place(int series, int year)
            throws IndexOutOfBoundsException, IllegalArgumentException {
        Row row = rowOf(series);
        if (year < NONE || year > MOST_YEAR) {
            throw new IllegalArgumentException("no such year");
        }
        int before = row.start;
        row.start = year;
        return before;
    }

    public int master(int set) throws IllegalStateException, IllegalArgumentException {
        if (meanCount >= MOST_MASTERS) {
            throw new IllegalStateException("there are eight masters");
        }
        if (set < 0 || set > MOST_SET) {
            throw new IllegalArgumentException("no such set");
        }
        int members = membersOf(set);
        if (members == 0) {
            return NONE;
        }
        Mean mean = new Mean(startsOf(members), firstYearOf(members), lastYearOf(members),
                Integer.bitCount(members));
        fillValues(mean);
        means[meanCount] = mean;
        meanCount++;
        return meanCount - 1;
    }

    public int about(int master, int what) throws IndexOutOfBoundsException {
        Mean mean = meanOf(master);
        switch (what) {
            case 0:
                return mean.first;
            case 1:
                return mean.last;
            case 2:
                return mean.members;
            default:
                throw new IndexOutOfBoundsException("no such what");
        }
    }

    public int at(int master, int year) throws IndexOutOfBoundsException {
        Mean mean = meanOf(master);
        return mean.values[placeInMaster(mean, year)];
    }

    public int depth(int master, int year) throws IndexOutOfBoundsException {
        Mean mean = meanOf(master);
        return mean.depths[placeInMaster(mean, year)];
    }

    public int leftOut(int master, int series, int what) throws IndexOutOfBoundsException {
        Mean mean = meanOf(master);
        checkSumOrYears(what);
        if (series < 0 || series >= mean.starts.length || mean.starts[series] == NONE) {
            throw new IndexOutOfBoundsException("no such member");
        }
        measureFromOthers(mean, series);
        return tried.sumOrYears(what);
    }

    public int distance(int series, int master, int year, int what)
            throws IndexOutOfBoundsException {
        Row row = rowOf(series);
        Mean mean = meanOf(master);
        checkSumOrYears(what);
        measure(row, mean, year);
        return tried.sumOrYears(what);
    }

    public int date(int series, int master, int least)
            throws IndexOutOfBoundsException, IllegalArgumentException {
        Row row = rowOf(series);
        Mean mean = meanOf(master);
        checkLeast(least);
        return nearestYear(row, mean, least);
    }

    public boolean agrees(int series, int set, int least)
            throws IndexOutOfBoundsException, IllegalArgumentException {
        Row row = rowOf(series);
        if (set < 0 || set >> meanCount != 0) {
            throw new IndexOutOfBoundsException("no such master");
        }
        checkLeast(least);
        int common = NO_DATE;
        for (int i = 0; i < meanCount; i++) {
            if ((set >> i & 1) == 0) {
                continue;
            }
            int year = nearestYear(row, means[i], least);
            if (year == NO_DATE || common != NO_DATE && year != common) {
                return false;
            }
            common = year;
        }
        return common != NO_DATE;
    }

    public int source(int series, int least, int k)
            throws IndexOutOfBoundsException, IllegalArgumentException {
        Row row = rowOf(series);
        if (k < 0) {
            throw new IndexOutOfBoundsException("no such place among the sources");
        }
        checkLeast(least);
        for (int i = 0; i < meanCount; i++) {
            dates[i] = nearestYear(row, means[i], least);
            gaps[i].become(nearest);
        }
        for (int i = 0; i < meanCount; i++) {
            if (dates[i] != NO_DATE && nearerThan(i) == k) {
                return i;
            }
        }
        return NONE;
    }

    public int sapwood(int rings, int w) throws IllegalArgumentException {
        if (rings < 0 || rings > MOST_SAPWOOD) {
            throw new IllegalArgumentException("no such number of rings");
        }
        if (w < 0 || w > MOST_WEIGHT) {
            throw new IllegalArgumentException("no such weight");
        }
        int before = weights[rings];
        weights[rings] = w;
        return before;
    }

    public int felling(int series, int sap, int above, int below)
            throws IndexOutOfBoundsException, IllegalStateException, IllegalArgumentException {
        Row row = rowOf(series);
        if (row.start == NONE) {
            throw new IllegalStateException("the series floats");
        }
        if (sap < 0 || sap > row.even.length) {
            throw new IllegalArgumentException("no such number of rings of sapwood");
        }
        if (above < 1 || above > below || below > MOST_BELOW) {
            throw new IllegalArgumentException("no such share");
        }
        int lastOfHeartwood = row.lastYear() - sap;
        return shortestYears(lastOfHeartwood, sap, above, below);
    }

    public boolean sameTree(int a, int b) throws IndexOutOfBoundsException {
        Row one = rowOf(a);
        Row other = rowOf(b);
        if (one.start == NONE || other.start == NONE) {
            return false;
        }
        tried.clear();
        for (int k = 0; k < one.even.length; k++) {
            int ring = other.ringIn(one.start + k, other.start);
            if (ring != NONE) {
                tried.add(one.even[k], ring);
            }
        }
        return tried.years >= SAME_TREE_YEARS && tried.sum <= SAME_TREE_DIFFERENCE * tried.years;
    }

    public int count(int what) throws IndexOutOfBoundsException {
        switch (what) {
            case 0:
                return padLength;
            case 1:
                return rowCount;
            case 2:
                return meanCount;
            case 3:
                return floatingRows();
            default:
                throw new IndexOutOfBoundsException("no such what");
        }
    }

    private Row rowOf(int number) {
        if (number < 0 || number >= rowCount) {
            throw new IndexOutOfBoundsException("no such series");
        }
        return rows[number];
    }

    private Mean meanOf(int number) {
        if (number < 0 || number >= meanCount) {
            throw new IndexOutOfBoundsException("no such master");
        }
        return means[number];
    }

    private static int placeInMaster(Mean mean, int year) {
        if (year < mean.first || year > mean.last) {
            throw new IndexOutOfBoundsException("no such year");
        }
        return year - mean.first;
    }

    private static void checkSumOrYears(int what) {
        if (what < 0 || what > 1) {
            throw new IndexOutOfBoundsException("no such what");
        }
    }

    private static void checkLeast(int least) {
        if (least < LEAST_COMMON || least > MOST_COMMON) {
            throw new IllegalArgumentException("no such least number of years");
        }
    }

    private int[] evenedPad() {
        int total = 0;
        for (int k = 0; k < padLength; k++) {
            total += pad[k];
        }
        int[] even = new int[padLength];
        for (int k = 0; k < even.length && total > 0; k++) {
            even[k] = Math.min(MOST_EVENED, 100 * pad[k] * even.length / total);
        }
        return even;
    }

    private int floatingRows() {
        int floating = 0;
        for (int i = 0; i < rowCount; i++) {
            if (rows[i].start == NONE) {
                floating++;
            }
        }
        return floating;
    }

    /** Those of a set that are there and placed, as bits. */
    private int membersOf(int set) {
        int members = 0;
        for (int i = 0; i < rowCount; i++) {
            if ((set >> i & 1) == 1 && rows[i].start != NONE) {
                members |= 1 << i;
            }
        }
        return members;
    }

    private int[] startsOf(int members) {
        int[] starts = new int[MOST_SERIES];
        Arrays.fill(starts, NONE);
        for (int i = 0; i < rowCount; i++) {
            if ((members >> i & 1) == 1) {
                starts[i] = rows[i].start;
            }
        }
        return starts;
    }

    private int firstYearOf(int members) {
        int first = MOST_YEAR;
        for (int i = 0; i < rowCount; i++) {
            if ((members >> i & 1) == 1) {
                first = Math.min(first, rows[i].start);
            }
        }
        return first;
    }

    private int lastYearOf(int members) {
        int last = 0;
        for (int i = 0; i < rowCount; i++) {
            if ((members >> i & 1) == 1) {
                last = Math.max(last, rows[i].lastYear());
            }
        }
        return last;
    }

    private void fillValues(Mean mean) {
        for (int i = 0; i < mean.values.length; i++) {
            gather(mean.starts, mean.first + i, NONE);
            mean.values[i] = robust.answer();
            mean.depths[i] = robust.taken;
        }
    }

    /** Takes the rings of one year of all members but one (NONE: of all) into the robust mean. */
    private void gather(int[] starts, int year, int without) {
        robust.clear();
        for (int i = 0; i < starts.length && i < rowCount; i++) {
            if (i == without || starts[i] == NONE) {
                continue;
            }
            int ring = rows[i].ringIn(year, starts[i]);
            if (ring != NONE) {
                robust.take(ring);
            }
        }
    }

    private void measureFromOthers(Mean mean, int member) {
        tried.clear();
        int[] even = rows[member].even;
        for (int k = 0; k < even.length; k++) {
            gather(mean.starts, mean.starts[member] + k, member);
            int value = robust.answer();
            if (value != NONE) {
                tried.add(even[k], value);
            }
        }
    }

    private void measure(Row row, Mean mean, int year) {
        tried.clear();
        for (int k = 0; k < row.even.length; k++) {
            // Any year may be asked for: an int would wrap round here.
            long i = (long) year + k - mean.first;
            if (i < 0 || i >= mean.values.length) {
                continue;
            }
            int value = mean.values[(int) i];
            if (value != NONE) {
                tried.add(row.even[k], value);
            }
        }
    }

    /** The date of a row, or NO_DATE; the distance there is left in nearest. */
    private int nearestYear(Row row, Mean mean, int least) {
        int best = NO_DATE;
        nearest.clear();
        for (int year = mean.first - row.even.length + 1; year <= mean.last; year++) {
            measure(row, mean, year);
            if (tried.years >= least && (best == NO_DATE || tried.lessThan(nearest))) {
                best = year;
                nearest.become(tried);
            }
        }
        return best;
    }

    /** How many masters with a date stand before this one among the sources. */
    private int nearerThan(int number) {
        int nearer = 0;
        for (int i = 0; i < meanCount; i++) {
            if (i == number || dates[i] == NO_DATE) {
                continue;
            }
            boolean ties = !gaps[number].lessThan(gaps[i]);
            if (gaps[i].lessThan(gaps[number]) || ties && i < number) {
                nearer++;
            }
        }
        return nearer;
    }

    private int shortestYears(int lastOfHeartwood, int sap, int above, int below) {
        long all = 0;
        for (int n = sap; n < weights.length; n++) {
            all += weights[n];
        }
        if (all == 0) {
            return NONE;
        }
        int from = sap;
        int to = MOST_SAPWOOD;
        for (int n = sap; n < weights.length; n++) {
            int end = endOfShare(n, above * all, below);
            if (end != NONE && end - n < to - from) {
                from = n;
                to = end;
            }
        }
        return 1000 * (lastOfHeartwood + from) + lastOfHeartwood + to;
    }

    /** The first number whose weights, counted from another one on, times below reach what is due. */
    private int endOfShare(int from, long due, int below) {
        long sum = 0;
        for (int n = from; n < weights.length; n++) {
            sum += weights[n];
            if (sum * below >= due) {
                return n;
            }
        }
        return NONE;
    }

    /** A series: its evened rings, and the year of the first one or NONE. */
    private static final class Row {
        private final int[] even;
        private int start;

        Row(int[] rings) {
            even = rings;
            start = NONE;
        }

        int lastYear() {
            return start + even.length - 1;
        }

        /** The ring in a year if the first one lay in another one, which a master may remember. */
        int ringIn(int year, int firstYear) {
            int k = year - firstYear;
            return k >= 0 && k < even.length ? even[k] : NONE;
        }
    }

    /** A master: where its members lay, and what came of them, year by year. */
    private static final class Mean {
        private final int[] starts;
        private final int first;
        private final int last;
        private final int members;
        private final int[] values;
        private final int[] depths;

        Mean(int[] memberStarts, int firstYear, int lastYear, int memberCount) {
            starts = memberStarts;
            first = firstYear;
            last = lastYear;
            members = memberCount;
            int years = Math.max(0, lastYear - firstYear + 1);
            values = new int[years];
            depths = new int[years];
        }
    }

    /** A mean that leaves out the least and the greatest of three or more. */
    private static final class Robust {
        private int taken;
        private int sum;
        private int smallest;
        private int largest;

        void clear() {
            taken = 0;
            sum = 0;
            smallest = 0;
            largest = 0;
        }

        void take(int value) {
            smallest = taken == 0 ? value : Math.min(smallest, value);
            largest = taken == 0 ? value : Math.max(largest, value);
            sum += value;
            taken++;
        }

        int answer() {
            if (taken <= 0) {
                return NONE;
            }
            if (taken <= 2) {
                return sum / taken;
            }
            return (sum - smallest - largest) / (taken - 2);
        }
    }

    /** A distance: the sum of the differences, and the years that have one. */
    private static final class Gap {
        private int sum;
        private int years;

        void clear() {
            sum = 0;
            years = 0;
        }

        void add(int one, int other) {
            sum += Math.abs(one - other);
            years++;
        }

        void become(Gap other) {
            sum = other.sum;
            years = other.years;
        }

        int sumOrYears(int what) {
            return what == 0 ? sum : years;
        }

        boolean lessThan(Gap other) {
            // Multiplied out, since a quotient rounded down would make unequal distances equal.
            int mine = sum * other.years;
            int others = other.sum * years;
            return mine < others || mine == others && years > other.years;
        }
    }
}
