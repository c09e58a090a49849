import java.util.Arrays;

/** What the tests share: answers beside what is due, refused calls, and rows of rings. */
abstract class Trial {
    static final Class<?> INDEX = IndexOutOfBoundsException.class;
    static final Class<?> STATE = IllegalStateException.class;
    static final Class<?> ARGUMENT = IllegalArgumentException.class;
    static final int NONE = -1;
    static final int NO_DATE = -1000;
    static final int MAX = Integer.MAX_VALUE;
    static final int MIN = Integer.MIN_VALUE;

    private static final int YEARS_AT_ONCE = 40;

    private static int wrong = 0;
    private static String words = "";

    interface Body {
        void run();
    }

    interface Call {
        void on(RingMasters x);
    }

    interface Maker {
        RingMasters make();
    }

    /** One test, named by the promise and the document's words that it stands for. */
    static void sentence(String ofDocument, Body test) {
        words = ofDocument + ": ";
        try {
            test.run();
        } catch (RuntimeException e) {
            tell("an unlooked-for " + e);
        }
        words = "";
    }

    static void end(String praise) {
        System.out.println(wrong == 0 ? praise : wrong + " answers are not as due");
        if (wrong != 0) {
            System.exit(1);
        }
    }

    private static void tell(String fault) {
        wrong++;
        System.out.println(words + fault);
    }

    static void is(String what, long got, long want) {
        if (got != want) {
            tell(what + " answered " + got + ", due is " + want);
        }
    }

    static void is(String what, boolean got, boolean want) {
        if (got != want) {
            tell(what + " answered " + got + ", due is " + want);
        }
    }

    static void fails(String what, Class<?> want, Body call) {
        threw(what, want, thrownBy(call));
    }

    /** The very class counts: one that the machine throws is a class below it. */
    private static void threw(String what, Class<?> want, Class<?> got) {
        if (got != want) {
            tell(what + " threw " + got + ", due is " + want);
        }
    }

    private static Class<?> thrownBy(Body call) {
        try {
            call.run();
        } catch (RuntimeException e) {
            return e.getClass();
        }
        return null;
    }

    /** The call throws what is due, and nothing that can be seen is other than without it. */
    static void refuses(String what, Class<?> want, Maker maker, Call call) {
        RingMasters x = maker.make();
        threw(what, want, thrownBy(() -> call.on(x)));
        String before = seen(maker);
        String behind = seen(() -> {
            RingMasters y = maker.make();
            thrownBy(() -> call.on(y));
            return y;
        });
        if (!before.equals(behind)) {
            tell(what + " changed\n  " + before + "\nto\n  " + behind);
        }
    }

    /** Looking changes an object, and its calls are few: so each part is seen on a new one. */
    private static String seen(Maker maker) {
        StringBuilder text = new StringBuilder();
        RingMasters x = maker.make();
        for (int what = 0; what < 4; what++) {
            text.append(x.count(what)).append(' ');
        }
        for (int s = 0; s < x.count(1); s++) {
            seeSeries(text.append("\n  series: "), maker.make(), s);
        }
        for (int m = 0; m < x.count(2); m++) {
            seeMaster(text.append("\n  master: "), maker, m);
        }
        seeSapwood(text.append("\n  sapwood: "), maker.make());
        seePad(text.append("\n  pad: "), maker.make());
        return text.toString();
    }

    private static void seeSeries(StringBuilder text, RingMasters x, int s) {
        for (int k = -1; k < x.evened(s, -1); k++) {
            text.append(x.evened(s, k)).append(' ');
        }
        text.append("in ").append(x.place(s, 0));
    }

    private static void seeMaster(StringBuilder text, Maker maker, int m) {
        RingMasters x = maker.make();
        int first = x.about(m, 0);
        int last = x.about(m, 1);
        text.append(first).append(' ').append(last).append(' ').append(x.about(m, 2));
        for (int s = 0; s < x.count(1); s++) {
            int series = s;
            boolean member = thrownBy(() -> x.leftOut(m, series, 0)) == null;
            text.append(' ').append(member ? x.leftOut(m, s, 0) + "/" + x.leftOut(m, s, 1) : "-");
        }
        for (int from = first; from <= last; from += YEARS_AT_ONCE) {
            RingMasters y = maker.make();
            for (int year = from; year <= last && year < from + YEARS_AT_ONCE; year++) {
                text.append(' ').append(y.at(m, year)).append('/').append(y.depth(m, year));
            }
        }
    }

    private static void seeSapwood(StringBuilder text, RingMasters x) {
        for (int rings = 0; rings <= 60; rings++) {
            text.append(x.sapwood(rings, 0)).append(' ');
        }
    }

    /** The pad shows what it holds once it is a series, if there is room for one. */
    private static void seePad(StringBuilder text, RingMasters x) {
        if (x.count(1) == 10) {
            return;
        }
        for (int n = x.count(0); n < 3; n++) {
            x.ring(11 * (n + 1));
        }
        seeSeries(text, x, x.series());
    }

    static int add(RingMasters x, int... widths) {
        for (int w : widths) {
            x.ring(w);
        }
        return x.series();
    }

    static int addPlaced(RingMasters x, int year, int... widths) {
        int series = add(x, widths);
        x.place(series, year);
        return series;
    }

    /** Widths that stay as they are when they are made even: 100 in the mean, 400 at most. */
    static int[] even(int... widths) {
        if (Arrays.stream(widths).sum() != 100 * widths.length
            || Arrays.stream(widths).max().orElse(0) > 400) {
            throw new IllegalStateException("a fault of the test: " + Arrays.toString(widths));
        }
        return widths;
    }

    static int[] same(int n, int w) {
        int[] row = new int[n];
        Arrays.fill(row, w);
        return row;
    }

    static int[] joined(int[] one, int... other) {
        int[] row = Arrays.copyOf(one, one.length + other.length);
        System.arraycopy(other, 0, row, one.length, other.length);
        return row;
    }

    static void rings(RingMasters x, int n) {
        for (int i = 0; i < n; i++) {
            x.ring(50);
        }
    }

    /** Ten series of three rings, 10 * (i + 1), 100 and 190 - 10 * i when even, all floating. */
    static RingMasters tenSeries() {
        RingMasters x = new RingMasters();
        for (int i = 0; i < 10; i++) {
            add(x, even(10 * (i + 1), 100, 190 - 10 * i));
        }
        return x;
    }

    /** Three series of which the last one floats, one master, two weights, one ring on the pad. */
    static RingMasters some() {
        RingMasters x = new RingMasters();
        addPlaced(x, 10, 1, 2, 3);
        addPlaced(x, 11, 2, 2, 5, 1);
        add(x, 3, 3, 4);
        x.master(7);
        x.sapwood(3, 8);
        x.sapwood(60, 2);
        x.ring(44);
        return x;
    }

    /** Ten series of which the last one floats, eight masters, and a pad of thirty rings. */
    static RingMasters full() {
        RingMasters x = tenSeries();
        for (int i = 0; i < 9; i++) {
            x.place(i, 20 + i);
        }
        for (int m = 0; m < 8; m++) {
            x.master(1023 >> m);
        }
        x.sapwood(0, 10000);
        rings(x, 30);
        return x;
    }
}
