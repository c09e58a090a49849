/** The boundary cases of an object's calls, of the terms SERIES, EVENED, PLACED, and of promises 1 to 5. */
public final class SeriesBoundaryTest extends Trial {
    private static final int[] NO_SERIES_OF_TEN = {-1, 10, 11, MIN, MAX};

    public static void main(String[] args) {
        sentence("'at most 512 calls': the last one answers", SeriesBoundaryTest::lastCall);
        sentence("'at most 512 calls': refused ones are calls, too", SeriesBoundaryTest::lastRefused);
        sentence("'NONE = -1'", () -> is("NONE", RingMasters.NONE, -1));
        newObject();
        rings();
        seriesMade();
        evenedTerms();
        evenedCalls();
        places();
        end("the boundaries of series hold");
    }

    private static void lastCall() {
        RingMasters x = new RingMasters();
        addPlaced(x, 500, same(30, 7));
        x.master(1);
        for (int call = 33; call < 511; call++) {
            x.source(0, 2, 0);
        }
        is("the 512th call", x.date(0, 0, 30), 500);
    }

    private static void lastRefused() {
        RingMasters x = new RingMasters();
        for (int call = 0; call < 511; call++) {
            int w = call % 2 == 0 ? 0 : 901;
            fails("ring(" + w + ")", ARGUMENT, () -> x.ring(w));
        }
        is("the 512th call", x.ring(900), 1);
    }

    private static void newObject() {
        sentence("1 'No series': none is counted", () -> {
            is("series", new RingMasters().count(1), 0);
            is("floating ones", new RingMasters().count(3), 0);
        });
        sentence("1 'No series': not even series 0 is there", SeriesBoundaryTest::noSeriesYet);
        sentence("1 'No .. masters': none is counted",
            () -> is("masters", new RingMasters().count(2), 0));
        sentence("1 'No .. masters': not even master 0 is there", SeriesBoundaryTest::noMasterYet);
        sentence("1 'an empty pad'", () -> {
            RingMasters x = new RingMasters();
            is("rings of the pad", x.count(0), 0);
            is("series of it", x.series(), NONE);
            is("its first ring", x.ring(1), 1);
        });
        sentence("1 'no sapwood': each weight is 0", () -> {
            RingMasters x = new RingMasters();
            for (int n = 0; n <= 60; n++) {
                is("weight of " + n, x.sapwood(n, 1), 0);
            }
        });
        sentence("1 'no sapwood': no year of felling", () -> {
            RingMasters x = new RingMasters();
            addPlaced(x, 0, 5, 5, 5);
            is("felling", x.felling(0, 0, 1, 1000), NONE);
        });
        sentence("1: a new object has nothing of another one", () -> {
            full();
            RingMasters x = new RingMasters();
            for (int what = 0; what < 4; what++) {
                is("count(" + what + ")", x.count(what), 0);
            }
            is("weight of 0", x.sapwood(0, 0), 0);
        });
    }

    private static void noSeriesYet() {
        Maker none = RingMasters::new;
        for (int s : new int[] {0, -1, MIN, MAX}) {
            refuses("evened of " + s, INDEX, none, x -> x.evened(s, -1));
            refuses("place of " + s, INDEX, none, x -> x.place(s, 0));
            refuses("agrees of " + s, INDEX, none, x -> x.agrees(s, 0, 2));
            refuses("source of " + s, INDEX, none, x -> x.source(s, 2, 0));
            refuses("felling of " + s, INDEX, none, x -> x.felling(s, 0, 1, 1));
            refuses("sameTree of " + s, INDEX, none, x -> x.sameTree(s, s));
        }
    }

    private static void noMasterYet() {
        Maker none = () -> {
            RingMasters x = new RingMasters();
            addPlaced(x, 0, 5, 5, 5);
            return x;
        };
        for (int m : new int[] {0, -1, MIN, MAX}) {
            refuses("about " + m, INDEX, none, x -> x.about(m, 0));
            refuses("at of " + m, INDEX, none, x -> x.at(m, 0));
            refuses("depth of " + m, INDEX, none, x -> x.depth(m, 0));
            refuses("leftOut of " + m, INDEX, none, x -> x.leftOut(m, 0, 0));
            refuses("distance from " + m, INDEX, none, x -> x.distance(0, m, 0, 0));
            refuses("date by " + m, INDEX, none, x -> x.date(0, m, 2));
        }
        refuses("agrees of {0}", INDEX, none, x -> x.agrees(0, 1, 2));
        is("agrees of the empty set", none.make().agrees(0, 0, 2), false);
        is("source", none.make().source(0, 2, 0), NONE);
    }

    private static void rings() {
        sentence("2 'how many it has': 1 .. 30", () -> {
            RingMasters x = new RingMasters();
            for (int n = 1; n <= 30; n++) {
                is("ring " + n, x.ring(n), n);
                is("rings of the pad", x.count(0), n);
            }
        });
        sentence("2 'there are 30': the 30th is the last", () -> {
            Maker almost = () -> {
                RingMasters x = new RingMasters();
                rings(x, 29);
                return x;
            };
            is("ring 30", almost.make().ring(900), 30);
            Maker thirty = () -> {
                RingMasters x = almost.make();
                x.ring(900);
                return x;
            };
            refuses("ring 31", STATE, thirty, x -> x.ring(1));
        });
        sentence("2 'there are 30': no more, once the pad is empty again", () -> {
            RingMasters x = new RingMasters();
            rings(x, 30);
            x.series();
            for (int n = 1; n <= 30; n++) {
                is("ring " + n, x.ring(1), n);
            }
            fails("ring 31", STATE, () -> x.ring(1));
        });
        sentence("2 'there are 30': with ten series, too", () -> {
            RingMasters x = tenSeries();
            rings(x, 29);
            is("ring 30", x.ring(1), 30);
            fails("ring 31", STATE, () -> x.ring(1));
        });
        sentence("2 'w is not 1 .. 900': 1 is", () -> is("ring(1)", new RingMasters().ring(1), 1));
        sentence("2 'w is not 1 .. 900': 900 is",
            () -> is("ring(900)", new RingMasters().ring(900), 1));
        sentence("2 'w is not 1 .. 900': too small", () -> {
            for (int w : new int[] {0, -1, -900, MIN}) {
                refuses("ring(" + w + ")", ARGUMENT, Trial::some, x -> x.ring(w));
            }
        });
        sentence("2 'w is not 1 .. 900': too large", () -> {
            for (int w : new int[] {901, 1000, MAX}) {
                refuses("ring(" + w + ")", ARGUMENT, Trial::some, x -> x.ring(w));
            }
        });
    }

    private static void seriesMade() {
        sentence("3 'and is empty'", () -> {
            RingMasters x = new RingMasters();
            add(x, 1, 2, 3);
            is("rings of the pad", x.count(0), 0);
            is("series of it", x.series(), NONE);
            is("its first ring", x.ring(7), 1);
        });
        sentence("3 'its number': 0 .. 9", () -> {
            RingMasters x = new RingMasters();
            for (int n = 0; n <= 9; n++) {
                is("series", add(x, 5, 5, 5), n);
                is("how many", x.count(1), n + 1);
            }
        });
        sentence("3 'NONE, if it has less than three rings (it stays then)'", () -> {
            for (int n = 0; n <= 2; n++) {
                RingMasters x = new RingMasters();
                for (int k = 0; k < n; k++) {
                    x.ring(50 + 100 * k);
                }
                is("series of " + n, x.series(), NONE);
                is("rings that stay", x.count(0), n);
                is("series then", x.count(1), 0);
                int[] rest = {50, 150, 100};
                for (int k = n; k < 3; k++) {
                    x.ring(rest[k]);
                }
                is("series of three", x.series(), 0);
                for (int k = 0; k < 3; k++) {
                    is("ring " + k + ", first " + n, x.evened(0, k), rest[k]);
                }
            }
        });
        sentence("3, SERIES 'rows of 3 .. 30 rings': three are enough", () -> {
            RingMasters x = new RingMasters();
            is("series", add(x, 5, 5, 5), 0);
            is("rings", x.evened(0, -1), 3);
        });
        sentence("3, SERIES 'rows of 3 .. 30 rings': thirty may be", () -> {
            RingMasters x = new RingMasters();
            is("series", add(x, same(30, 5)), 0);
            is("rings", x.evened(0, -1), 30);
        });
        sentence("3 'there are ten': the tenth is the last", () -> {
            RingMasters x = new RingMasters();
            for (int n = 0; n < 9; n++) {
                add(x, 5, 5, 5);
            }
            is("the tenth", add(x, 5, 5, 5), 9);
            rings(x, 3);
            fails("an eleventh", STATE, x::series);
        });
        sentence("3 'there are ten': whatever the pad has", () -> {
            for (int n : new int[] {0, 1, 2, 3, 4, 30}) {
                refuses("an eleventh of " + n, STATE, () -> {
                    RingMasters x = tenSeries();
                    rings(x, n);
                    return x;
                }, RingMasters::series);
            }
        });
    }

    private static void evenedTerms() {
        sentence("EVENED 'rounded down'", () -> {
            RingMasters x = new RingMasters();
            add(x, 1, 2, 4);
            is("300 / 7", x.evened(0, 0), 42);
            is("600 / 7", x.evened(0, 1), 85);
            is("1200 / 7", x.evened(0, 2), 171);
        });
        sentence("EVENED 'rounded down': to 0, and just not", () -> {
            RingMasters x = new RingMasters();
            add(x, 1, 150, 150);
            add(x, 1, 150, 149);
            is("300 / 301", x.evened(0, 0), 0);
            is("300 / 300", x.evened(1, 0), 1);
        });
        sentence("EVENED 'rounded down': without a rest it stays", () -> {
            RingMasters x = new RingMasters();
            add(x, 1, 1, 1);
            add(x, 900, 900, 900);
            add(x, same(30, 900));
            is("smallest widths", x.evened(0, 2), 100);
            is("greatest widths", x.evened(1, 0), 100);
            is("thirty of them", x.evened(2, 29), 100);
        });
        sentence("EVENED '400 at most': below it nothing is cut", () -> {
            RingMasters x = new RingMasters();
            add(x, 900, 56, 56, 57, 57);
            is("450000 / 1126", x.evened(0, 0), 399);
        });
        sentence("EVENED '400 at most': 400 itself", () -> {
            RingMasters x = new RingMasters();
            add(x, 900, 56, 56, 56, 57);
            is("450000 / 1125", x.evened(0, 0), 400);
        });
        sentence("EVENED '400 at most': above it", () -> {
            RingMasters x = new RingMasters();
            add(x, 900, 56, 55, 55, 56);
            add(x, joined(new int[] {900}, same(29, 1)));
            is("450000 / 1122 = 401", x.evened(0, 0), 400);
            is("2700000 / 929 = 2906", x.evened(1, 0), 400);
            is("3000 / 929", x.evened(1, 29), 3);
        });
        sentence("EVENED '400 at most': three rings never reach it", () -> {
            RingMasters x = new RingMasters();
            add(x, 1, 900, 1);
            is("270000 / 902", x.evened(0, 1), 299);
        });
    }

    private static void evenedCalls() {
        sentence("4 'k = -1: how many rings there are'", () -> {
            RingMasters x = new RingMasters();
            add(x, 1, 2, 3);
            add(x, same(29, 4));
            add(x, same(30, 4));
            is("three", x.evened(0, -1), 3);
            is("twenty-nine", x.evened(1, -1), 29);
            is("thirty", x.evened(2, -1), 30);
        });
        Maker two = () -> {
            RingMasters x = new RingMasters();
            add(x, 50, 100, 150);
            add(x, joined(same(29, 100), 100));
            return x;
        };
        sentence("4 'IndexOutOfBoundsException': the first ring and the last one are there", () -> {
            RingMasters x = two.make();
            is("first of three", x.evened(0, 0), 50);
            is("last of three", x.evened(0, 2), 150);
            is("last of thirty", x.evened(1, 29), 100);
        });
        sentence("4 'IndexOutOfBoundsException': no ring before the first one but -1", () -> {
            for (int k : new int[] {-2, -3, MIN, MIN + 1}) {
                refuses("ring " + k, INDEX, two, x -> x.evened(0, k));
            }
        });
        sentence("4 'IndexOutOfBoundsException': no ring behind the last one", () -> {
            for (int k : new int[] {3, 4, 29, 30, MAX}) {
                refuses("ring " + k + " of three", INDEX, two, x -> x.evened(0, k));
            }
            refuses("ring 30 of thirty", INDEX, two, x -> x.evened(1, 30));
        });
        sentence("4, SERIES 'are 0 .. 9': the last one that is there, and the next number", () -> {
            is("series 1", two.make().evened(1, 0), 100);
            for (int s : new int[] {-1, 2, 9, 10, MIN, MAX}) {
                refuses("series " + s, INDEX, two, x -> x.evened(s, -1));
            }
        });
        sentence("4, SERIES 'are 0 .. 9': of ten", () -> {
            RingMasters x = tenSeries();
            is("series 0", x.evened(0, 0), 10);
            is("series 9", x.evened(9, 0), 100);
            for (int s : NO_SERIES_OF_TEN) {
                refuses("series " + s, INDEX, Trial::tenSeries, y -> y.evened(s, 0));
            }
        });
    }

    private static void places() {
        sentence("PLACED 'or FLOATING (at first)'", () -> {
            RingMasters x = tenSeries();
            is("all float", x.count(3), 10);
            for (int s = 0; s < 10; s++) {
                is("year before of " + s, x.place(s, 5), NONE);
            }
            is("none floats", x.count(3), 0);
        });
        sentence("5 'the year before (NONE)'", () -> {
            RingMasters x = tenSeries();
            is("floating", x.place(0, 0), NONE);
            is("year 0", x.place(0, 500), 0);
            is("year 500", x.place(0, 500), 500);
            is("the same once more", x.place(0, 1), 500);
            is("year 1", x.place(0, NONE), 1);
            is("floating again", x.place(0, NONE), NONE);
            is("the others float", x.count(3), 10);
        });
        sentence("5 '(NONE: it floats)'", () -> {
            RingMasters x = tenSeries();
            x.place(9, 0);
            is("nine float", x.count(3), 9);
            x.place(9, NONE);
            is("ten float", x.count(3), 10);
            is("a master of it", x.master(512), NONE);
            fails("felling", STATE, () -> x.felling(9, 0, 1, 1));
        });
        sentence("5 'year is not NONE .. 500': 0 and 500 are", () -> {
            RingMasters x = tenSeries();
            x.place(0, 0);
            x.place(1, 500);
            is("none below", x.master(1), 0);
            is("first year 0", x.about(0, 0), 0);
            is("none above", x.master(2), 1);
            is("first year 500", x.about(1, 0), 500);
        });
        sentence("5 'year is not NONE .. 500': too early", () -> {
            for (int year : new int[] {-2, -1000, MIN}) {
                refuses("year " + year, ARGUMENT, Trial::some, x -> x.place(0, year));
                refuses("year " + year + ", floating", ARGUMENT, Trial::some,
                    x -> x.place(2, year));
            }
        });
        sentence("5 'year is not NONE .. 500': too late", () -> {
            for (int year : new int[] {501, 529, MAX}) {
                refuses("year " + year, ARGUMENT, Trial::some, x -> x.place(0, year));
                refuses("year " + year + ", floating", ARGUMENT, Trial::some,
                    x -> x.place(2, year));
            }
        });
        sentence("5 'IndexOutOfBoundsException'", () -> {
            is("series 2 is there", some().place(2, 3), NONE);
            for (int s : new int[] {-1, 3, 9, 10, MIN, MAX}) {
                refuses("series " + s, INDEX, Trial::some, x -> x.place(s, 3));
            }
            is("series 9 of ten is there", tenSeries().place(9, 3), NONE);
            for (int s : NO_SERIES_OF_TEN) {
                refuses("series " + s + " of ten", INDEX, Trial::tenSeries, x -> x.place(s, 3));
            }
        });
    }
}
