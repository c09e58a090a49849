/** The boundary cases of the term DISTANCE and of promises 11 to 14. */
public final class DatingBoundaryTest extends Trial {
    private static final int[] NO_LEAST = {-1, 0, 1, 31, 32, MIN, MAX};

    public static void main(String[] args) {
        distanceYears();
        distanceEndsOfInt();
        distanceRefused();
        less();
        dates();
        dateLeast();
        dateRefused();
        agreeing();
        agreesSets();
        agreesRefused();
        sources();
        sourceTies();
        sourceRefused();
        end("the boundaries of dating hold");
    }

    /** Series 0 and 1 make a master of the years 0 .. 2 and 6 .. 8; series 2 is flat and floats. */
    private static RingMasters gap() {
        RingMasters x = new RingMasters();
        addPlaced(x, 0, even(50, 100, 150));
        addPlaced(x, 6, even(150, 100, 50));
        add(x, same(9, 100));
        x.master(3);
        return x;
    }

    /** Eight masters that all have series 1 in the year 200, and series 0 in another one. */
    private static RingMasters eight() {
        RingMasters x = new RingMasters();
        add(x, even(150, 100, 50));
        addPlaced(x, 200, even(50, 150, 100));
        for (int m = 0; m < 8; m++) {
            x.place(0, 210 + 10 * m);
            x.master(3);
        }
        return x;
    }

    private static void far(RingMasters x, int series, int year, int sum, int years) {
        is("sum in " + year, x.distance(series, 0, year, 0), sum);
        is("years in " + year, x.distance(series, 0, year, 1), years);
    }

    private static void distanceYears() {
        sentence("DISTANCE 'all years where both have one': all", () -> {
            far(gap(), 0, 0, 0, 3);
            far(gap(), 0, 6, 200, 3);
        });
        sentence("DISTANCE 'all years where both have one': the first alone, and none", () -> {
            far(gap(), 0, -1, 50 + 50, 2);
            far(gap(), 0, -2, 100, 1);
            far(gap(), 0, -3, 0, 0);
        });
        sentence("DISTANCE 'all years where both have one': the last alone, and none", () -> {
            far(gap(), 0, 7, 50 + 50, 2);
            far(gap(), 0, 8, 0, 1);
            far(gap(), 0, 9, 0, 0);
        });
        sentence("DISTANCE 'all years where both have one': none in a gap", () -> {
            far(gap(), 0, 2, 100, 1);
            far(gap(), 0, 3, 0, 0);
            far(gap(), 0, 4, 0, 1);
        });
        sentence("DISTANCE 'all years where both have one': both sides of a gap", () -> {
            far(gap(), 2, 0, 4 * 50, 6);
            far(gap(), 2, 1, 3 * 50, 5);
            far(gap(), 2, -1, 3 * 50, 5);
        });
        sentence("DISTANCE: thirty rings on thirty years", () -> {
            RingMasters x = new RingMasters();
            addPlaced(x, 500, same(30, 9));
            x.master(1);
            far(x, 0, 500, 0, 30);
            far(x, 0, 499, 0, 29);
            far(x, 0, 471, 0, 1);
            far(x, 0, 470, 0, 0);
            far(x, 0, 529, 0, 1);
            far(x, 0, 530, 0, 0);
        });
        sentence("DISTANCE 'absolute values': they do not weigh one another up", () -> {
            RingMasters x = new RingMasters();
            addPlaced(x, 9, even(1, 100, 199));
            add(x, even(199, 100, 1));
            x.master(1);
            far(x, 1, 9, 198 + 198, 3);
        });
        sentence("DISTANCE: rings and values of 0 are some", () -> {
            RingMasters x = new RingMasters();
            addPlaced(x, 9, 1, 400, 500);
            x.master(1);
            far(x, 0, 9, 0, 3);
            add(x, same(3, 7));
            far(x, 1, 7, 100, 1);
        });
    }

    private static void distanceEndsOfInt() {
        sentence("11 'any year may be': the ends of int", () -> {
            RingMasters x = gap();
            for (int i = 0; i < 12; i++) {
                far(x, 0, MIN + i, 0, 0);
                far(x, 2, MAX - i, 0, 0);
            }
            far(x, 2, MIN / 2, 0, 0);
            far(x, 2, MAX / 2, 0, 0);
        });
        sentence("11 'any year may be': with the last years that a master can have", () -> {
            RingMasters x = new RingMasters();
            addPlaced(x, 500, same(30, 9));
            x.master(1);
            for (int year : new int[] {MIN, MIN + 470, MIN + 499, MIN + 500, MIN + 529, MAX,
                MAX - 28, MAX - 29, MAX - 30, MAX - 499, MAX - 529, -500, -530}) {
                far(x, 0, year, 0, 0);
            }
        });
        sentence("11 'any year may be': below 0 and above 500", () -> {
            far(gap(), 2, -8, 50, 1);
            far(gap(), 2, -9, 0, 0);
            far(gap(), 2, 501, 0, 0);
        });
        sentence("11: the series may float, or lie elsewhere", () -> {
            RingMasters x = gap();
            x.place(0, 300);
            far(x, 0, 0, 0, 3);
            x.place(0, NONE);
            far(x, 0, 0, 0, 3);
        });
    }

    private static void distanceRefused() {
        sentence("11 'IndexOutOfBoundsException: series'", () -> {
            is("series 2 is there", some().distance(2, 0, 12, 1), 3);
            for (int s : new int[] {-1, 3, 9, 10, MIN, MAX}) {
                refuses("series " + s, INDEX, Trial::some, x -> x.distance(s, 0, 10, 0));
            }
            is("series 9 of ten is there", full().distance(9, 7, 20, 1), 3);
            for (int s : new int[] {-1, 10, MIN, MAX}) {
                refuses("series " + s, INDEX, Trial::full, x -> x.distance(s, 0, 10, 0));
            }
        });
        sentence("11 'IndexOutOfBoundsException: .. master'", () -> {
            for (int m : new int[] {-1, 1, 7, 8, MIN, MAX}) {
                refuses("master " + m, INDEX, Trial::some, x -> x.distance(0, m, 10, 0));
            }
            for (int m : new int[] {-1, 8, MIN, MAX}) {
                refuses("master " + m, INDEX, Trial::full, x -> x.distance(0, m, 10, 0));
            }
        });
        sentence("11 'IndexOutOfBoundsException: .. what'", () -> {
            for (int what : new int[] {-1, 2, MIN, MAX}) {
                refuses("what " + what, INDEX, Trial::some, x -> x.distance(0, 0, 10, what));
                refuses("what " + what + " of no years", INDEX, Trial::some,
                    x -> x.distance(0, 0, MIN, what));
            }
        });
    }

    /** A flat series of five rings that floats, and one row of years at 20, another one at 60. */
    private static RingMasters flatAnd(int[] early, int[] late) {
        RingMasters x = new RingMasters();
        add(x, same(5, 100));
        addPlaced(x, 20, even(early));
        addPlaced(x, 60, even(late));
        x.master(2);
        x.master(4);
        x.master(6);
        return x;
    }

    private static void less() {
        sentence("LESS 'sum divided by its years is less': with a greater sum", () -> {
            // 10 of 3 years, and 12 of 4.
            RingMasters x = flatAnd(new int[] {103, 95, 102}, new int[] {103, 97, 103, 97});
            is("date", x.date(0, 2, 3), 59);
            is("first source", x.source(0, 3, 0), 1);
        });
        sentence("LESS 'sum divided by its years is less': not rounded", () -> {
            // 10 of 3 years, and 14 of 4: rounded down they would be equal.
            RingMasters x = flatAnd(new int[] {103, 96, 104, 97}, new int[] {103, 95, 102});
            is("date", x.date(0, 2, 3), 58);
            is("first source", x.source(0, 3, 0), 1);
        });
        sentence("LESS 'if these are equal, its years are more': of the later one", () -> {
            // 12 of 3 years, and 16 of 4.
            RingMasters x = flatAnd(new int[] {106, 96, 98}, new int[] {104, 96, 104, 96});
            is("date", x.date(0, 2, 3), 59);
            is("first source", x.source(0, 3, 0), 1);
        });
        sentence("LESS 'if these are equal, its years are more': of the earlier one", () -> {
            RingMasters x = flatAnd(new int[] {104, 96, 104, 96}, new int[] {106, 96, 98});
            is("date", x.date(0, 2, 3), 19);
            is("first source", x.source(0, 3, 0), 0);
            is("the master of both is as near", x.source(0, 3, 1), 2);
            is("last source", x.source(0, 3, 2), 1);
        });
        sentence("LESS 'if these are equal': more years do not help a greater one", () -> {
            // 10 of 3 years, and 16 of 4.
            RingMasters x = flatAnd(new int[] {104, 96, 104, 96}, new int[] {103, 95, 102});
            is("date", x.date(0, 2, 3), 58);
            is("first source", x.source(0, 3, 0), 1);
        });
        sentence("LESS: a sum of 0 in the fewest years is less than any other", () -> {
            RingMasters x = new RingMasters();
            add(x, even(150, 50, 100));
            addPlaced(x, 50, joined(same(28, 100), 150, 50));
            x.master(2);
            is("date", x.date(0, 0, 2), 78);
        });
    }

    private static void dates() {
        sentence("12 'of equal ones the earliest'", () -> {
            RingMasters x = new RingMasters();
            addPlaced(x, 30, same(30, 8));
            add(x, 7, 7, 7);
            x.master(1);
            is("date", x.date(1, 0, 2), 30);
            is("its last one would be", x.distance(1, 0, 57, 1), 3);
        });
        sentence("12 'of equal ones the earliest': over a gap", () -> {
            RingMasters x = new RingMasters();
            addPlaced(x, 400, even(50, 100, 150));
            addPlaced(x, 10, even(50, 100, 150));
            x.master(3);
            is("date", x.date(0, 0, 3), 10);
        });
        sentence("12 '(it may be below 0)': as far as can be", () -> {
            RingMasters x = new RingMasters();
            addPlaced(x, 0, even(100, 150, 50));
            add(x, even(joined(joined(same(22, 98), same(6, 99)), 100, 150)));
            x.master(1);
            is("date", x.date(1, 0, 2), -28);
            is("with three years it lies elsewhere", x.date(1, 0, 3) == -28, false);
        });
        sentence("12 '(it may be below 0)': -1 is no NONE", () -> {
            RingMasters x = new RingMasters();
            addPlaced(x, 0, even(100, 150, 50));
            add(x, even(100, 100, 150, 50));
            x.master(1);
            is("date", x.date(1, 0, 3), -1);
            is("agrees", x.agrees(1, 1, 3), true);
            is("source", x.source(1, 3, 0), 0);
        });
        sentence("12: the latest date that can be", () -> {
            RingMasters x = new RingMasters();
            addPlaced(x, 500, joined(same(28, 100), 150, 50));
            add(x, even(150, 50, 100));
            x.master(1);
            is("date", x.date(1, 0, 2), 528);
        });
        sentence("12 'a series': floating, placed elsewhere, or a member", () -> {
            RingMasters x = gap();
            is("a member", x.date(1, 0, 3), 6);
            x.place(1, 500);
            is("placed elsewhere", x.date(1, 0, 3), 6);
            x.place(1, NONE);
            is("floating", x.date(1, 0, 3), 6);
        });
    }

    private static void dateLeast() {
        sentence("12 'years not below least in common': just as many", () -> {
            is("three of three", gap().date(0, 0, 3), 0);
            is("four of three", gap().date(0, 0, 4), NO_DATE);
        });
        sentence("12 'years not below least in common': none in a gap", () -> {
            is("six in nine", gap().date(2, 0, 6), 0);
            is("seven in nine", gap().date(2, 0, 7), NO_DATE);
        });
        sentence("12 'years not below least in common': a nearer one with too few is none", () -> {
            RingMasters x = new RingMasters();
            addPlaced(x, 10, even(100, 150, 50));
            add(x, even(100, 150, 50, 100));
            addPlaced(x, 40, even(110, 140, 60, 90));
            x.master(5);
            is("three years", x.date(1, 0, 3), 10);
            is("four years", x.date(1, 0, 4), 40);
            is("five years", x.date(1, 0, 5), NO_DATE);
        });
        sentence("12 '-1000 if there is none': a short master, a short series", () -> {
            RingMasters x = new RingMasters();
            addPlaced(x, 10, same(30, 5));
            addPlaced(x, 10, 5, 5, 5);
            x.master(1);
            x.master(2);
            is("three rings, least 3", x.date(1, 0, 3), 10);
            is("three rings, least 4", x.date(1, 0, 4), NO_DATE);
            is("three years, least 3", x.date(0, 1, 3), 10 - 27);
            is("three years, least 4", x.date(0, 1, 4), NO_DATE);
        });
        sentence("12 'least is not 2 .. 30': 2 is", () -> {
            RingMasters x = new RingMasters();
            addPlaced(x, 10, even(50, 100, 150));
            add(x, even(100, 150, 50));
            x.master(1);
            is("two years in common", x.date(1, 0, 2), 11);
        });
        sentence("12 'least is not 2 .. 30': 30 is", () -> {
            RingMasters x = new RingMasters();
            addPlaced(x, 10, same(30, 5));
            add(x, same(29, 5));
            x.master(1);
            is("thirty rings", x.date(0, 0, 30), 10);
            is("twenty-nine of them", x.date(1, 0, 29), 10);
            is("twenty-nine are no thirty", x.date(1, 0, 30), NO_DATE);
        });
    }

    private static void dateRefused() {
        sentence("12 'least is not 2 .. 30'", () -> {
            for (int least : NO_LEAST) {
                refuses("least " + least, ARGUMENT, Trial::some, x -> x.date(0, 0, least));
            }
        });
        sentence("12 'IndexOutOfBoundsException': series", () -> {
            is("series 2 is there", some().date(2, 0, 3), 10);
            for (int s : new int[] {-1, 3, 9, 10, MIN, MAX}) {
                refuses("series " + s, INDEX, Trial::some, x -> x.date(s, 0, 2));
            }
            is("series 9 of ten is there", full().date(9, 7, 6), NO_DATE);
            for (int s : new int[] {-1, 10, MIN, MAX}) {
                refuses("series " + s, INDEX, Trial::full, x -> x.date(s, 0, 2));
            }
        });
        sentence("12 'IndexOutOfBoundsException': master", () -> {
            for (int m : new int[] {-1, 1, 7, 8, MIN, MAX}) {
                refuses("master " + m, INDEX, Trial::some, x -> x.date(0, m, 2));
            }
            for (int m : new int[] {-1, 8, MIN, MAX}) {
                refuses("master " + m, INDEX, Trial::full, x -> x.date(0, m, 2));
            }
        });
    }

    private static void agreeing() {
        sentence("13 'all masters .. give one date': one master", () -> {
            for (int m = 0; m < 8; m++) {
                is("{" + m + "}", eight().agrees(1, 1 << m, 3), true);
            }
        });
        sentence("13 'all masters .. give one date': all eight", () -> {
            is("all", eight().agrees(1, 255, 3), true);
            is("all, of a series with eight dates", eight().agrees(0, 255, 3), false);
        });
        sentence("13 'all masters .. give one date': one of eight has another", () -> {
            for (int odd = 0; odd < 8; odd++) {
                RingMasters x = new RingMasters();
                add(x, even(50, 150, 100));
                for (int m = 0; m < 8; m++) {
                    x.place(0, m == odd ? 31 : 30);
                    x.master(1);
                }
                is("but " + odd, x.agrees(0, 255, 3), false);
                is("without " + odd, x.agrees(0, 255 - (1 << odd), 3), true);
            }
        });
        sentence("13 'no, if one gives none'", () -> {
            for (int odd = 0; odd < 8; odd++) {
                RingMasters x = new RingMasters();
                addPlaced(x, 30, even(50, 150, 100, 100));
                addPlaced(x, 30, even(50, 150, 100));
                for (int m = 0; m < 8; m++) {
                    x.master(m == odd ? 2 : 1);
                }
                is("but " + odd, x.agrees(0, 255, 4), false);
                is("it alone, " + odd, x.agrees(0, 1 << odd, 4), false);
                is("without " + odd, x.agrees(0, 255 - (1 << odd), 4), true);
            }
        });
        sentence("13 'no, if one gives none': all of them", () -> {
            is("all give none", eight().agrees(1, 255, 4), false);
        });
    }

    private static void agreesSets() {
        sentence("13 'no, .. or the set is empty'", () -> {
            is("of eight masters", eight().agrees(0, 0, 3), false);
            RingMasters x = new RingMasters();
            add(x, 5, 5, 5);
            is("of no masters", x.agrees(0, 0, 2), false);
        });
        sentence("13 'the set has one that is not there': the last that is", () -> {
            is("of one master", some().agrees(0, 1, 3), true);
            is("of eight masters", eight().agrees(1, 128, 3), true);
        });
        sentence("13 'the set has one that is not there'", () -> {
            for (int set : new int[] {2, 3, 128, 256, 512, 1023, 1 << 30, MAX}) {
                refuses("set " + set, INDEX, Trial::some, x -> x.agrees(0, set, 2));
            }
            for (int set : new int[] {256, 257, 511, 512, 1 << 30, MAX}) {
                refuses("set " + set, INDEX, DatingBoundaryTest::eight,
                    x -> x.agrees(1, set, 3));
            }
        });
        sentence("13 'or is below 0'", () -> {
            for (int set : new int[] {-1, -2, -256, MIN, MIN + 1}) {
                refuses("set " + set, INDEX, Trial::some, x -> x.agrees(0, set, 2));
                refuses("set " + set + " of eight", INDEX, DatingBoundaryTest::eight,
                    x -> x.agrees(1, set, 3));
            }
        });
    }

    private static void agreesRefused() {
        sentence("13 'IndexOutOfBoundsException: series'", () -> {
            for (int s : new int[] {-1, 3, 9, 10, MIN, MAX}) {
                refuses("series " + s, INDEX, Trial::some, x -> x.agrees(s, 1, 2));
                refuses("series " + s + ", empty set", INDEX, Trial::some,
                    x -> x.agrees(s, 0, 2));
            }
            is("series 9 of ten is there", full().agrees(9, 0, 2), false);
            refuses("series 10 of ten", INDEX, Trial::full, x -> x.agrees(10, 0, 2));
        });
        sentence("13 'IllegalArgumentException: least': 2 and 30 may be", () -> {
            RingMasters x = new RingMasters();
            addPlaced(x, 10, same(30, 5));
            x.master(1);
            is("least 30", x.agrees(0, 1, 30), true);
            is("least 2", x.agrees(0, 1, 2), true);
        });
        sentence("13 'IllegalArgumentException: least'", () -> {
            for (int least : NO_LEAST) {
                refuses("least " + least, ARGUMENT, Trial::some, x -> x.agrees(0, 1, least));
                refuses("least " + least + ", empty set", ARGUMENT, Trial::some,
                    x -> x.agrees(0, 0, least));
            }
        });
    }

    private static void sources() {
        sentence("14 'the k-th nearest': the first is 0, the last of eight 7", () -> {
            RingMasters x = new RingMasters();
            add(x, even(100, 150, 50));
            for (int m = 0; m < 8; m++) {
                addPlaced(x, 40, even(108 - m, 150, 42 + m));
                x.master(2 << m);
            }
            for (int k = 0; k < 8; k++) {
                is("source " + k, x.source(0, 3, k), 7 - k);
            }
            is("source 8", x.source(0, 3, 8), NONE);
        });
        sentence("14 'NONE': k as great as can be", () -> {
            RingMasters x = eight();
            is("source 7", x.source(1, 3, 7), 7);
            for (int k : new int[] {8, 9, 32, 1 << 30, MAX}) {
                is("source " + k, x.source(1, 3, k), NONE);
            }
        });
        sentence("14 'NONE': no masters", () -> {
            RingMasters x = new RingMasters();
            addPlaced(x, 5, 5, 5, 5);
            is("source 0", x.source(0, 2, 0), NONE);
            is("source MAX", x.source(0, 2, MAX), NONE);
        });
        sentence("14 'those that give no date are left out'", () -> {
            RingMasters x = new RingMasters();
            addPlaced(x, 30, even(50, 150, 100));
            addPlaced(x, 30, even(50, 149, 100, 101));
            add(x, even(50, 150, 100, 100));
            x.master(1);
            x.master(2);
            x.master(1);
            is("the one with four years", x.source(2, 4, 0), 1);
            is("no other one", x.source(2, 4, 1), NONE);
            is("with three years it is the last", x.source(2, 3, 2), 1);
        });
        sentence("14 'those that give no date are left out': all", () -> {
            is("source 0", eight().source(1, 4, 0), NONE);
        });
    }

    private static void sourceTies() {
        sentence("14 'the less first': of equal quotients the one of more years", () -> {
            RingMasters x = new RingMasters();
            addPlaced(x, 50, same(3, 7));
            addPlaced(x, 50, same(4, 7));
            addPlaced(x, 50, same(5, 7));
            x.master(1);
            x.master(2);
            x.master(4);
            is("five years", x.source(2, 2, 0), 2);
            is("four years", x.source(2, 2, 1), 1);
            is("three years", x.source(2, 2, 2), 0);
        });
        sentence("14 'then by number': all eight alike", () -> {
            for (int k = 0; k < 8; k++) {
                is("source " + k, eight().source(1, 3, k), k);
            }
        });
        sentence("14 'then by number': whatever their dates are", () -> {
            RingMasters x = new RingMasters();
            add(x, even(50, 150, 100));
            int[] years = {500, 0, 250};
            for (int year : years) {
                x.place(0, year);
                x.master(1);
            }
            for (int k = 0; k < 3; k++) {
                is("source " + k, x.source(0, 3, k), k);
            }
        });
    }

    private static void sourceRefused() {
        sentence("14 'k is below 0'", () -> {
            is("k 0", some().source(0, 2, 0), 0);
            for (int k : new int[] {-1, -2, MIN}) {
                refuses("k " + k, INDEX, Trial::some, x -> x.source(0, 2, k));
                refuses("k " + k + " of eight", INDEX, Trial::full, x -> x.source(0, 2, k));
            }
        });
        sentence("14 'IndexOutOfBoundsException: series'", () -> {
            is("series 2 is there", some().source(2, 2, 0), 0);
            for (int s : new int[] {-1, 3, 9, 10, MIN, MAX}) {
                refuses("series " + s, INDEX, Trial::some, x -> x.source(s, 2, 0));
            }
            is("series 9 of ten is there", full().source(9, 30, 0), NONE);
            refuses("series 10 of ten", INDEX, Trial::full, x -> x.source(10, 2, 0));
        });
        sentence("14 'IllegalArgumentException: least': 2 and 30 may be", () -> {
            RingMasters x = new RingMasters();
            addPlaced(x, 10, same(30, 5));
            x.master(1);
            is("least 30", x.source(0, 30, 0), 0);
            is("least 2", x.source(0, 2, 0), 0);
        });
        sentence("14 'IllegalArgumentException: least'", () -> {
            for (int least : NO_LEAST) {
                refuses("least " + least, ARGUMENT, Trial::some, x -> x.source(0, least, 0));
                refuses("least " + least + ", k too great", ARGUMENT, Trial::some,
                    x -> x.source(0, least, MAX));
            }
        });
    }
}
