import java.util.ArrayList;
import java.util.Collections;
import java.util.List;
import java.util.Map;
import java.util.Random;
import java.util.TreeMap;

/** Random runs of at most 512 calls, each answer beside that of a slow model of the document. */
public final class OracleTest {
    private static final int RUNS = 600;
    private static final int CALLS = 512;
    private static final String[] NAMES = {
        "ring", "series", "evened", "place", "master", "about", "at", "depth", "leftOut",
        "distance", "date", "agrees", "source", "sapwood", "felling", "sameTree", "count",
    };
    private static final int[] PARAMETERS = {1, 0, 2, 2, 1, 2, 2, 2, 3, 4, 3, 3, 3, 2, 4, 2, 1};
    private static final int[] WILD = {
        Integer.MIN_VALUE, Integer.MIN_VALUE + 1, -1001, -2, -1, 0, 1, 2, 3, 7, 8, 9, 10, 11, 29,
        30, 31, 59, 60, 61, 255, 256, 499, 500, 501, 529, 530, 899, 900, 901, 1000, 1001, 1023,
        1024, 10000, 10001, Integer.MAX_VALUE - 1, Integer.MAX_VALUE,
    };

    /** What a master was made of: for each member, which year it began in. */
    private static final class Made {
        final Map<Integer, Integer> begins = new TreeMap<>();
        final Map<Integer, List<Integer>> rings = new TreeMap<>();
    }

    private static final class Far implements Comparable<Far> {
        long sum = 0;
        long years = 0;
        int tag;

        @Override
        public int compareTo(Far o) {
            int byMean = Long.compare(sum * o.years, o.sum * years);
            if (byMean != 0) {
                return byMean;
            }
            return years != o.years ? Long.compare(o.years, years) : Integer.compare(tag, o.tag);
        }
    }

    /** The document's words, one by one, with no thought of speed. */
    private static final class Model {
        final List<Integer> pad = new ArrayList<>();
        final List<List<Integer>> series = new ArrayList<>();
        final List<Integer> begins = new ArrayList<>();
        final List<Made> masters = new ArrayList<>();
        final int[] sapwood = new int[61];

        static void index(boolean holds) {
            if (!holds) {
                throw new IndexOutOfBoundsException();
            }
        }

        static void state(boolean holds) {
            if (!holds) {
                throw new IllegalStateException();
            }
        }

        static void argument(boolean holds) {
            if (!holds) {
                throw new IllegalArgumentException();
            }
        }

        static boolean in(int x, int from, int to) {
            return from <= x && x <= to;
        }

        void needSeries(int s) {
            index(in(s, 0, series.size() - 1));
        }

        void needMaster(int m) {
            index(in(m, 0, masters.size() - 1));
        }

        int call(String name, int a, int b, int c, int d) {
            switch (name) {
                case "ring":
                    state(pad.size() < 30);
                    argument(in(a, 1, 900));
                    pad.add(a);
                    return pad.size();
                case "series":
                    return newSeries();
                case "evened":
                    needSeries(a);
                    index(in(b, -1, series.get(a).size() - 1));
                    return b == -1 ? series.get(a).size() : series.get(a).get(b);
                case "place":
                    needSeries(a);
                    argument(in(b, -1, 500));
                    return begins.set(a, b);
                case "master":
                    return newMaster(a);
                case "about":
                    needMaster(a);
                    index(in(b, 0, 2));
                    return b == 0 ? first(a) : b == 1 ? last(a) : masters.get(a).begins.size();
                case "at":
                    needMaster(a);
                    index(in(b, first(a), last(a)));
                    return value(masters.get(a).rings.getOrDefault(b, List.of()));
                case "depth":
                    needMaster(a);
                    index(in(b, first(a), last(a)));
                    return masters.get(a).rings.getOrDefault(b, List.of()).size();
                case "leftOut":
                    needMaster(a);
                    index(in(c, 0, 1) && masters.get(a).begins.containsKey(b));
                    return pick(leftOut(masters.get(a), b), c);
                case "distance":
                    needSeries(a);
                    needMaster(b);
                    index(in(d, 0, 1));
                    return pick(far(series.get(a), masters.get(b), c), d);
                case "date":
                    needSeries(a);
                    needMaster(b);
                    argument(in(c, 2, 30));
                    return date(a, b, c);
                case "agrees":
                    needSeries(a);
                    index(b >= 0 && b < 1 << masters.size());
                    argument(in(c, 2, 30));
                    return agrees(a, b, c) ? 1 : 0;
                case "source":
                    needSeries(a);
                    index(c >= 0);
                    argument(in(b, 2, 30));
                    return source(a, b, c);
                case "sapwood":
                    argument(in(a, 0, 60) && in(b, 0, 10000));
                    int before = sapwood[a];
                    sapwood[a] = b;
                    return before;
                case "felling":
                    needSeries(a);
                    state(begins.get(a) != -1);
                    argument(in(b, 0, series.get(a).size()) && 1 <= c && c <= d && d <= 1000);
                    return felling(begins.get(a) + series.get(a).size() - 1 - b, b, c, d);
                case "sameTree":
                    needSeries(a);
                    needSeries(b);
                    return sameTree(a, b) ? 1 : 0;
                default:
                    index(in(a, 0, 3));
                    return new int[] {pad.size(), series.size(), masters.size(),
                        Collections.frequency(begins, -1)}[a];
            }
        }

        int newSeries() {
            state(series.size() < 10);
            if (pad.size() < 3) {
                return -1;
            }
            int sum = pad.stream().mapToInt(w -> w).sum();
            List<Integer> even = new ArrayList<>();
            for (int w : pad) {
                even.add((int) Math.min(400, Math.floor(100.0 * w * pad.size() / sum)));
            }
            pad.clear();
            series.add(even);
            begins.add(-1);
            return series.size() - 1;
        }

        int newMaster(int set) {
            state(masters.size() < 8);
            argument(in(set, 0, 1023));
            Made made = new Made();
            for (int s = 0; s < series.size(); s++) {
                if ((set & 1 << s) != 0 && begins.get(s) != -1) {
                    made.begins.put(s, begins.get(s));
                }
            }
            if (made.begins.isEmpty()) {
                return -1;
            }
            made.rings.putAll(rings(made, -1));
            masters.add(made);
            return masters.size() - 1;
        }

        Map<Integer, List<Integer>> rings(Made made, int without) {
            Map<Integer, List<Integer>> all = new TreeMap<>();
            for (Map.Entry<Integer, Integer> e : made.begins.entrySet()) {
                int year = e.getValue();
                for (int ring : series.get(e.getKey())) {
                    if (e.getKey() != without) {
                        all.computeIfAbsent(year, y -> new ArrayList<>()).add(ring);
                    }
                    year++;
                }
            }
            return all;
        }

        int first(int m) {
            return ((TreeMap<Integer, List<Integer>>) masters.get(m).rings).firstKey();
        }

        int last(int m) {
            return ((TreeMap<Integer, List<Integer>>) masters.get(m).rings).lastKey();
        }

        static int value(List<Integer> rings) {
            if (rings.isEmpty()) {
                return -1;
            }
            List<Integer> sorted = new ArrayList<>(rings);
            Collections.sort(sorted);
            if (sorted.size() >= 3) {
                sorted = sorted.subList(1, sorted.size() - 1);
            }
            return sorted.stream().mapToInt(r -> r).sum() / sorted.size();
        }

        static int pick(Far far, int what) {
            return (int) (what == 0 ? far.sum : far.years);
        }

        Far leftOut(Made made, int s) {
            return far(series.get(s), rings(made, s), made.begins.get(s));
        }

        static Far far(List<Integer> row, Made made, long year) {
            return far(row, made.rings, year);
        }

        static Far far(List<Integer> row, Map<Integer, List<Integer>> rings, long year) {
            Far far = new Far();
            for (int y : rings.keySet()) {
                long k = y - year;
                if (k >= 0 && k < row.size()) {
                    far.sum += Math.abs(row.get((int) k) - value(rings.get(y)));
                    far.years++;
                }
            }
            return far;
        }

        Far nearest(int s, int m, int least) {
            List<Far> all = new ArrayList<>();
            for (int year = first(m) - 40; year <= last(m) + 40; year++) {
                Far far = far(series.get(s), masters.get(m), year);
                far.tag = year;
                if (far.years >= least) {
                    all.add(far);
                }
            }
            return all.isEmpty() ? null : Collections.min(all);
        }

        int date(int s, int m, int least) {
            Far far = nearest(s, m, least);
            return far == null ? -1000 : far.tag;
        }

        boolean agrees(int s, int set, int least) {
            List<Integer> dates = new ArrayList<>();
            for (int m = 0; m < masters.size(); m++) {
                if ((set & 1 << m) != 0) {
                    dates.add(date(s, m, least));
                }
            }
            return !dates.contains(-1000) && dates.stream().distinct().count() == 1;
        }

        int source(int s, int least, int k) {
            List<Far> all = new ArrayList<>();
            for (int m = 0; m < masters.size(); m++) {
                Far far = nearest(s, m, least);
                if (far != null) {
                    far.tag = m;
                    all.add(far);
                }
            }
            Collections.sort(all);
            return k < all.size() ? all.get(k).tag : -1;
        }

        int felling(int heartwood, int sap, int above, int below) {
            long all = weight(sap, 60);
            for (int length = 1; all > 0 && length <= 61; length++) {
                for (int from = sap; from + length - 1 <= 60; from++) {
                    if (weight(from, from + length - 1) * below >= all * above) {
                        return 1000 * (heartwood + from) + heartwood + from + length - 1;
                    }
                }
            }
            return -1;
        }

        long weight(int from, int to) {
            long sum = 0;
            for (int n = from; n <= to; n++) {
                sum += sapwood[n];
            }
            return sum;
        }

        boolean sameTree(int a, int b) {
            if (begins.get(a) == -1 || begins.get(b) == -1) {
                return false;
            }
            Made made = new Made();
            made.begins.put(b, begins.get(b));
            Far far = far(series.get(a), rings(made, -1), begins.get(a));
            return far.years >= 5 && far.sum <= 15 * far.years;
        }
    }

    private static int callOf(RingMasters x, String name, int a, int b, int c, int d) {
        switch (name) {
            case "ring": return x.ring(a);
            case "series": return x.series();
            case "evened": return x.evened(a, b);
            case "place": return x.place(a, b);
            case "master": return x.master(a);
            case "about": return x.about(a, b);
            case "at": return x.at(a, b);
            case "depth": return x.depth(a, b);
            case "leftOut": return x.leftOut(a, b, c);
            case "distance": return x.distance(a, b, c, d);
            case "date": return x.date(a, b, c);
            case "agrees": return x.agrees(a, b, c) ? 1 : 0;
            case "source": return x.source(a, b, c);
            case "sapwood": return x.sapwood(a, b);
            case "felling": return x.felling(a, b, c, d);
            case "sameTree": return x.sameTree(a, b) ? 1 : 0;
            default: return x.count(a);
        }
    }

    /** Makes the calls of one run, mostly of arguments that are there. */
    private static final class Run {
        final Random random;
        final RingMasters x = new RingMasters();
        final Model model = new Model();
        final List<String> told = new ArrayList<>();
        final int widest;
        final int latest;
        final int longest;
        final int[] signal = new int[40];

        Run(int seed) {
            random = new Random(seed);
            widest = new int[] {1, 2, 4, 20, 900}[random.nextInt(5)];
            latest = new int[] {0, 5, 30, 60, 500}[random.nextInt(5)];
            longest = new int[] {3, 6, 12, 30}[random.nextInt(4)];
            for (int i = 0; i < signal.length; i++) {
                signal[i] = 1 + random.nextInt(widest);
            }
        }

        int within(int from, int to) {
            return to < from ? from : from + random.nextInt(to - from + 1);
        }

        int aSeries() {
            return within(0, model.series.size() - 1);
        }

        int aMaster() {
            return within(0, model.masters.size() - 1);
        }

        int aWidth() {
            return random.nextInt(4) == 0 ? within(1, widest)
                : signal[(model.pad.size() + 3 * model.series.size()) % signal.length];
        }

        int[] likely(String name) {
            int m = aMaster();
            boolean any = !model.masters.isEmpty();
            int first = any ? model.first(m) : 0;
            int last = any ? model.last(m) : 0;
            int s = aSeries();
            int rings = model.series.isEmpty() ? 0 : model.series.get(s).size();
            int least = within(2, random.nextBoolean() ? 5 : 12);
            switch (name) {
                case "ring": return new int[] {aWidth(), 0, 0, 0};
                case "evened": return new int[] {s, within(-1, rings), 0, 0};
                case "place": return new int[] {s, within(-1, latest), 0, 0};
                case "master": return new int[] {within(0, 1023), 0, 0, 0};
                case "about": return new int[] {m, within(0, 2), 0, 0};
                case "at":
                case "depth": return new int[] {m, within(first - 1, last + 1), 0, 0};
                case "leftOut": return new int[] {m, s, within(0, 1), 0};
                case "distance": return new int[] {s, m, within(first - 31, last + 2), within(0, 1)};
                case "date": return new int[] {s, m, least, 0};
                case "agrees":
                    return new int[] {s, within(0, (1 << model.masters.size()) - 1)
                        & within(0, 255), least, 0};
                case "source": return new int[] {s, least, within(0, model.masters.size()), 0};
                case "sapwood":
                    return new int[] {within(0, random.nextBoolean() ? 60 : 12),
                        within(0, random.nextBoolean() ? 3 : 10000), 0, 0};
                case "felling": {
                    int below = within(1, random.nextBoolean() ? 6 : 1000);
                    return new int[] {s, within(0, rings), within(1, below), below};
                }
                case "sameTree": return new int[] {s, aSeries(), 0, 0};
                default: return new int[] {within(0, 3), 0, 0, 0};
            }
        }

        String pickName(int call) {
            boolean building = model.series.size() < 4 || random.nextInt(4) == 0;
            if (building && model.series.size() < 10 && random.nextInt(8) != 0) {
                return model.pad.size() >= 3 && random.nextInt(longest - 2 + 1) == 0
                    || model.pad.size() >= longest ? "series" : "ring";
            }
            if (random.nextInt(6) == 0) {
                return "place";
            }
            String name = NAMES[random.nextInt(NAMES.length)];
            // Not all eight masters at once, so that later ones have more members.
            return name.equals("master") && call < 60 * model.masters.size() ? "leftOut" : name;
        }

        boolean goes() {
            for (int call = 0; call < CALLS; call++) {
                String name = pickName(call);
                int[] v = likely(name);
                if (random.nextInt(12) == 0) {
                    v[random.nextInt(4)] = WILD[random.nextInt(WILD.length)];
                }
                String due = answer(false, name, v);
                String got = answer(true, name, v);
                StringBuilder text = new StringBuilder(name).append('(');
                for (int i = 0; i < PARAMETERS[List.of(NAMES).indexOf(name)]; i++) {
                    text.append(i == 0 ? "" : ", ").append(v[i]);
                }
                told.add(text.append(") => ").append(got).toString());
                if (!due.equals(got)) {
                    System.out.println(String.join("\n", told));
                    System.out.println("due is " + due);
                    return false;
                }
                SEEN.merge(name + (got.startsWith("class") ? " throws" : " answers "
                    + (got.equals("-1") || got.equals("-1000") ? "none" : "")), 1, Integer::sum);
            }
            return true;
        }

        String answer(boolean real, String name, int[] v) {
            try {
                return "" + (real ? callOf(x, name, v[0], v[1], v[2], v[3])
                    : model.call(name, v[0], v[1], v[2], v[3]));
            } catch (RuntimeException e) {
                return "" + e.getClass();
            }
        }
    }

    private static final Map<String, Integer> SEEN = new TreeMap<>();

    public static void main(String[] args) {
        for (int seed = 1; seed <= RUNS; seed++) {
            if (!new Run(seed).goes()) {
                System.out.println("wrong in the run of seed " + seed);
                System.exit(1);
            }
        }
        if (args.length > 0) {
            SEEN.forEach((what, times) -> System.out.println(times + " " + what));
        }
        System.out.println(RUNS + " runs answered as the model does");
    }
}
