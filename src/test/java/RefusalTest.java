/** The paragraph EXCEPTIONS: which one comes first, and that a refused call changes nothing. */
public final class RefusalTest extends Trial {
    private static final int[] NO_WIDTH = {0, 901, MIN, MAX};
    private static final int[] NO_YEAR = {-2, 501, MIN, MAX};
    private static final int[] NO_LEAST = {1, 31, MIN, MAX};

    public static void main(String[] args) {
        indexBeforeArgument();
        indexBeforeState();
        stateBeforeArgument();
        refusedBeforeAnswered();
        twoOfOneKind();
        changesNothing();
        sentence("EXCEPTIONS 'Such a call changes nothing': many of them", RefusalTest::many);
        end("refused calls throw and change as due");
    }

    private static void indexBeforeArgument() {
        sentence("EXCEPTIONS, 5: no such series before the year", () -> {
            for (int year : NO_YEAR) {
                refuses("place(3, " + year + ")", INDEX, Trial::some, x -> x.place(3, year));
                refuses("place(-1, " + year + ")", INDEX, Trial::some, x -> x.place(-1, year));
            }
        });
        sentence("EXCEPTIONS, 12: no such series or master before least", () -> {
            for (int least : NO_LEAST) {
                refuses("date(3, 0, " + least + ")", INDEX, Trial::some,
                    x -> x.date(3, 0, least));
                refuses("date(0, 1, " + least + ")", INDEX, Trial::some,
                    x -> x.date(0, 1, least));
                refuses("date(-1, -1, " + least + ")", INDEX, Trial::some,
                    x -> x.date(-1, -1, least));
            }
        });
        sentence("EXCEPTIONS, 13: no such series or set before least", () -> {
            for (int least : NO_LEAST) {
                refuses("agrees(3, 0, " + least + ")", INDEX, Trial::some,
                    x -> x.agrees(3, 0, least));
                refuses("agrees(0, 2, " + least + ")", INDEX, Trial::some,
                    x -> x.agrees(0, 2, least));
                refuses("agrees(0, -1, " + least + ")", INDEX, Trial::some,
                    x -> x.agrees(0, -1, least));
            }
        });
        sentence("EXCEPTIONS, 14: no such series or k before least", () -> {
            for (int least : NO_LEAST) {
                refuses("source(3, " + least + ", 0)", INDEX, Trial::some,
                    x -> x.source(3, least, 0));
                refuses("source(0, " + least + ", -1)", INDEX, Trial::some,
                    x -> x.source(0, least, -1));
            }
        });
        sentence("EXCEPTIONS, 16: no such series before sap and the share", () -> {
            refuses("felling(3, -1, 1, 1)", INDEX, Trial::some, x -> x.felling(3, -1, 1, 1));
            refuses("felling(3, 0, 0, 1)", INDEX, Trial::some, x -> x.felling(3, 0, 0, 1));
            refuses("felling(-1, 0, 1, 1001)", INDEX, Trial::some,
                x -> x.felling(-1, 0, 1, 1001));
        });
    }

    private static void indexBeforeState() {
        sentence("EXCEPTIONS, 16: no such series before floating", () -> {
            refuses("felling(0, 0, 1, 1) of none", INDEX, RingMasters::new,
                x -> x.felling(0, 0, 1, 1));
            refuses("felling(10, 0, 1, 1) of ten floating ones", INDEX, Trial::tenSeries,
                x -> x.felling(10, 0, 1, 1));
        });
    }

    private static void stateBeforeArgument() {
        sentence("EXCEPTIONS, 2: a full pad before the width", () -> {
            for (int w : NO_WIDTH) {
                refuses("ring(" + w + ")", STATE, Trial::full, x -> x.ring(w));
            }
        });
        sentence("EXCEPTIONS, 6: eight masters before the set", () -> {
            for (int set : new int[] {-1, 1024, MIN, MAX}) {
                refuses("master(" + set + ")", STATE, Trial::full, x -> x.master(set));
            }
        });
        sentence("EXCEPTIONS, 16: floating before sap", () -> {
            for (int sap : new int[] {-1, 4, MIN, MAX}) {
                refuses("felling(2, " + sap + ", 1, 1)", STATE, Trial::some,
                    x -> x.felling(2, sap, 1, 1));
            }
        });
        sentence("EXCEPTIONS, 16: floating before the share", () -> {
            refuses("0 of 1", STATE, Trial::some, x -> x.felling(2, 0, 0, 1));
            refuses("2 of 1", STATE, Trial::some, x -> x.felling(2, 0, 2, 1));
            refuses("1 of 1001", STATE, Trial::some, x -> x.felling(2, 0, 1, 1001));
        });
    }

    private static void refusedBeforeAnswered() {
        sentence("EXCEPTIONS, 3: ten series before NONE", () ->
            refuses("series()", STATE, Trial::tenSeries, RingMasters::series));
        sentence("EXCEPTIONS, 6: eight masters before NONE", () ->
            refuses("master(0)", STATE, Trial::full, x -> x.master(0)));
        sentence("EXCEPTIONS, 6: the set before NONE", () ->
            refuses("master(1024)", ARGUMENT, RingMasters::new, x -> x.master(1024)));
        sentence("EXCEPTIONS, 12: least before -1000", () ->
            refuses("date(2, 0, 31)", ARGUMENT, Trial::some, x -> x.date(2, 0, 31)));
        sentence("EXCEPTIONS, 13: least before the answer of an empty set", () ->
            refuses("agrees(0, 0, 31)", ARGUMENT, Trial::some, x -> x.agrees(0, 0, 31)));
        sentence("EXCEPTIONS, 14: k and least before NONE", () -> {
            refuses("source(0, 2, -1)", INDEX, Trial::tenSeries, x -> x.source(0, 2, -1));
            refuses("source(0, 1, 0)", ARGUMENT, Trial::tenSeries, x -> x.source(0, 1, 0));
        });
        sentence("EXCEPTIONS, 16: floating, sap and the share before NONE", () -> {
            Maker unweighed = () -> {
                RingMasters x = tenSeries();
                x.place(0, 5);
                return x;
            };
            refuses("felling(1, 0, 1, 1)", STATE, unweighed, x -> x.felling(1, 0, 1, 1));
            refuses("felling(0, 4, 1, 1)", ARGUMENT, unweighed, x -> x.felling(0, 4, 1, 1));
            refuses("felling(0, 0, 1, 1001)", ARGUMENT, unweighed,
                x -> x.felling(0, 0, 1, 1001));
        });
        sentence("EXCEPTIONS, 17: no such series before the answer of a floating one", () -> {
            refuses("sameTree(0, 10)", INDEX, Trial::tenSeries, x -> x.sameTree(0, 10));
            refuses("sameTree(10, 0)", INDEX, Trial::tenSeries, x -> x.sameTree(10, 0));
        });
    }

    private static void twoOfOneKind() {
        sentence("EXCEPTIONS: more than one thing is not there", () -> {
            refuses("evened(3, 9)", INDEX, Trial::some, x -> x.evened(3, 9));
            refuses("about(1, 3)", INDEX, Trial::some, x -> x.about(1, 3));
            refuses("at(1, -1)", INDEX, Trial::some, x -> x.at(1, -1));
            refuses("depth(-1, 600)", INDEX, Trial::some, x -> x.depth(-1, 600));
            refuses("leftOut(1, 3, 2)", INDEX, Trial::some, x -> x.leftOut(1, 3, 2));
            refuses("distance(3, 1, 0, 2)", INDEX, Trial::some, x -> x.distance(3, 1, 0, 2));
            refuses("distance(MIN ..)", INDEX, Trial::some,
                x -> x.distance(MIN, MIN, MIN, MIN));
            refuses("distance(MAX ..)", INDEX, Trial::some,
                x -> x.distance(MAX, MAX, MAX, MAX));
        });
    }

    private static void changesNothing() {
        sentence("EXCEPTIONS 'Such a call changes nothing': of some", () -> {
            refuses("ring", ARGUMENT, Trial::some, x -> x.ring(901));
            refuses("evened", INDEX, Trial::some, x -> x.evened(0, 3));
            refuses("place, index", INDEX, Trial::some, x -> x.place(3, 0));
            refuses("place, argument", ARGUMENT, Trial::some, x -> x.place(0, 501));
            refuses("master", ARGUMENT, Trial::some, x -> x.master(1024));
            refuses("about", INDEX, Trial::some, x -> x.about(0, 3));
            refuses("at", INDEX, Trial::some, x -> x.at(0, 9));
            refuses("depth", INDEX, Trial::some, x -> x.depth(0, 15));
            refuses("leftOut", INDEX, Trial::some, x -> x.leftOut(0, 2, 0));
            refuses("distance", INDEX, Trial::some, x -> x.distance(0, 0, 10, 2));
            refuses("date", ARGUMENT, Trial::some, x -> x.date(0, 0, 31));
            refuses("agrees, index", INDEX, Trial::some, x -> x.agrees(0, 3, 2));
            refuses("agrees, argument", ARGUMENT, Trial::some, x -> x.agrees(0, 1, 1));
            refuses("source, index", INDEX, Trial::some, x -> x.source(0, 2, -1));
            refuses("source, argument", ARGUMENT, Trial::some, x -> x.source(0, 31, 0));
            refuses("sapwood", ARGUMENT, Trial::some, x -> x.sapwood(3, 10001));
            refuses("felling, state", STATE, Trial::some, x -> x.felling(2, 0, 1, 1));
            refuses("felling, argument", ARGUMENT, Trial::some, x -> x.felling(0, 4, 1, 1));
            refuses("sameTree", INDEX, Trial::some, x -> x.sameTree(0, 3));
            refuses("count", INDEX, Trial::some, x -> x.count(4));
        });
        sentence("EXCEPTIONS 'Such a call changes nothing': of all that there may be", () -> {
            refuses("ring", STATE, Trial::full, x -> x.ring(1));
            refuses("series", STATE, Trial::full, RingMasters::series);
            refuses("evened", INDEX, Trial::full, x -> x.evened(9, 3));
            refuses("place", ARGUMENT, Trial::full, x -> x.place(9, 501));
            refuses("master", STATE, Trial::full, x -> x.master(1023));
            refuses("leftOut", INDEX, Trial::full, x -> x.leftOut(0, 9, 0));
            refuses("agrees", INDEX, Trial::full, x -> x.agrees(0, 256, 2));
            refuses("felling", STATE, Trial::full, x -> x.felling(9, 0, 1, 1));
        });
    }

    /** Every kind of refused call over and over, and then the object goes on where it was. */
    private static void many() {
        RingMasters x = some();
        for (int i = 0; i < 40; i++) {
            fails("ring", ARGUMENT, () -> x.ring(0));
            fails("place", ARGUMENT, () -> x.place(0, -2));
            fails("master", ARGUMENT, () -> x.master(-1));
            fails("date", ARGUMENT, () -> x.date(0, 0, 1));
            fails("sapwood", ARGUMENT, () -> x.sapwood(3, -1));
            fails("felling", STATE, () -> x.felling(2, 0, 1, 1));
            fails("at", INDEX, () -> x.at(0, 15));
            fails("leftOut", INDEX, () -> x.leftOut(0, 3, 0));
        }
        is("the pad's second ring", x.ring(22), 2);
        is("its third ring", x.ring(66), 3);
        is("its series", x.series(), 3);
        is("first ring", x.evened(3, 0), 100);
        is("second ring", x.evened(3, 1), 50);
        is("third ring", x.evened(3, 2), 150);
        is("weight", x.sapwood(3, 0), 8);
        is("year", x.place(0, 5), 10);
        is("next master", x.master(1), 1);
    }
}
