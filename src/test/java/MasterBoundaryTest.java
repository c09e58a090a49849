/** The boundary cases of the terms MASTER, DEPTH and VALUE, and of promises 6 to 10. */
public final class MasterBoundaryTest extends Trial {
    private static final int[] NO_MASTER_OF_EIGHT = {-1, 8, 9, MIN, MAX};

    public static void main(String[] args) {
        members();
        years();
        depths();
        values();
        stays();
        masterCalls();
        abouts();
        yearsOfMaster();
        leftOutYears();
        leftOutValues();
        leftOutRefused();
        end("the boundaries of masters hold");
    }

    private static RingMasters tenPlaced() {
        RingMasters x = tenSeries();
        for (int s = 0; s < 10; s++) {
            x.place(s, 100);
        }
        return x;
    }

    /** A master of years 0 .. 2 and 6 .. 8 with a gap between, and one of the years 500 .. 529. */
    private static RingMasters gapAndLast() {
        RingMasters x = new RingMasters();
        addPlaced(x, 0, even(50, 100, 150));
        addPlaced(x, 6, even(150, 100, 50));
        addPlaced(x, 500, joined(same(29, 100), 100));
        x.master(3);
        x.master(4);
        return x;
    }

    private static void members() {
        sentence("MEMBERS 'are those of them that are placed just then': one alone", () -> {
            RingMasters x = tenSeries();
            x.place(9, 7);
            is("of all ten", x.master(1023), 0);
            is("members", x.about(0, 2), 1);
            is("value", x.at(0, 7), 100);
        });
        sentence("MEMBERS 'are those of them that are placed just then': all ten", () -> {
            RingMasters x = tenPlaced();
            x.master(1023);
            is("members", x.about(0, 2), 10);
        });
        sentence("MEMBERS 'are those of them': no other one that is placed", () -> {
            RingMasters x = tenPlaced();
            x.master(1);
            x.master(512);
            is("members of {0}", x.about(0, 2), 1);
            is("value of {0}", x.at(0, 100), 10);
            is("members of {9}", x.about(1, 2), 1);
            is("value of {9}", x.at(1, 100), 100);
        });
        sentence("MEMBERS: numbers of a set that are not there", () -> {
            RingMasters x = new RingMasters();
            addPlaced(x, 3, 5, 5, 5);
            is("of those alone", x.master(1022), NONE);
            is("of them too", x.master(1023), 0);
            is("members", x.about(0, 2), 1);
        });
        sentence("MEMBERS 'just then': placed later, or floating later", () -> {
            RingMasters x = tenSeries();
            x.place(0, 50);
            x.master(3);
            x.place(0, NONE);
            x.place(1, 50);
            x.master(3);
            is("members before", x.about(0, 2), 1);
            is("value before", x.at(0, 50), 10);
            is("members behind", x.about(1, 2), 1);
            is("value behind", x.at(1, 50), 20);
        });
        sentence("MEMBERS: year 0 is a place", () -> {
            RingMasters x = tenSeries();
            x.place(0, 0);
            is("master", x.master(1), 0);
            is("members", x.about(0, 2), 1);
        });
    }

    private static void years() {
        sentence("MASTER 'the years from the first to the last one': of one member", () -> {
            RingMasters x = tenSeries();
            x.place(4, 77);
            x.master(16);
            is("first", x.about(0, 0), 77);
            is("last", x.about(0, 1), 79);
        });
        sentence("MASTER 'the years from the first to the last one': the ends of all years", () -> {
            RingMasters x = new RingMasters();
            addPlaced(x, 0, 5, 5, 5);
            addPlaced(x, 500, same(30, 5));
            x.master(3);
            x.master(2);
            is("first", x.about(0, 0), 0);
            is("last", x.about(0, 1), 529);
            is("first of the last one", x.about(1, 0), 500);
            is("its last", x.about(1, 1), 529);
        });
        sentence("MASTER 'that any of them has': one within another", () -> {
            RingMasters x = new RingMasters();
            addPlaced(x, 10, same(30, 5));
            addPlaced(x, 15, 5, 5, 5);
            x.master(3);
            is("first", x.about(0, 0), 10);
            is("last", x.about(0, 1), 39);
        });
        sentence("MASTER 'that any of them has': no member's that floats", () -> {
            RingMasters x = new RingMasters();
            add(x, same(30, 5));
            addPlaced(x, 15, 5, 5, 5);
            x.master(3);
            is("first", x.about(0, 0), 15);
            is("last", x.about(0, 1), 17);
        });
    }

    private static void depths() {
        sentence("DEPTH 'how many members have that year': each member's ends", () -> {
            RingMasters x = gapAndLast();
            int[] due = {1, 1, 1, 0, 0, 0, 1, 1, 1};
            for (int year = 0; year < due.length; year++) {
                is("depth in " + year, x.depth(0, year), due[year]);
            }
        });
        sentence("DEPTH 'how many members have that year': 0 .. 10", () -> {
            RingMasters x = tenPlaced();
            x.place(9, 103);
            x.master(511);
            x.master(1023);
            is("nine", x.depth(0, 100), 9);
            is("nine of ten", x.depth(1, 102), 9);
            is("the tenth", x.depth(1, 103), 1);
            x.place(9, 102);
            x.master(1023);
            is("ten where one begins", x.depth(2, 102), 10);
            is("one behind the others", x.depth(2, 103), 1);
            is("one in the last year", x.depth(2, 104), 1);
        });
        sentence("DEPTH: an evened ring of 0 is one", () -> {
            RingMasters x = new RingMasters();
            addPlaced(x, 5, 1, 400, 500);
            x.master(1);
            is("evened", x.evened(0, 0), 0);
            is("depth", x.depth(0, 5), 1);
            is("value", x.at(0, 5), 0);
        });
    }

    private static int valueOf(int... firstRings) {
        RingMasters x = new RingMasters();
        for (int v : firstRings) {
            addPlaced(x, 0, v < 1 ? new int[] {1, 400, 500} : even(v, 100, 200 - v));
        }
        x.master(1023);
        return x.at(0, 0);
    }

    private static void values() {
        sentence("VALUE 'of one or two the mean': one", () -> is("77", valueOf(77), 77));
        sentence("VALUE 'of one or two the mean': two",
            () -> is("10, 190", valueOf(10, 190), 100));
        sentence("VALUE 'of one or two the mean .. rounded down'", () -> {
            is("100, 101", valueOf(100, 101), 100);
            is("0, 1", valueOf(0, 1), 0);
        });
        sentence("VALUE 'of three or more .. without the least and the greatest': three", () -> {
            is("1, 90, 199", valueOf(1, 90, 199), 90);
            is("199, 90, 1", valueOf(199, 90, 1), 90);
            is("90, 1, 199", valueOf(90, 1, 199), 90);
            is("90, 199, 1", valueOf(90, 199, 1), 90);
        });
        sentence("VALUE '.. rounded down': of the two in the middle", () -> {
            is("1, 60, 61, 199", valueOf(1, 60, 61, 199), 60);
            is("1, 60, 62, 199", valueOf(1, 60, 62, 199), 61);
        });
        sentence("VALUE '(one of each)': the least one twice", () -> {
            is("40, 40, 90", valueOf(40, 40, 90), 40);
            is("40, 90, 40, 150", valueOf(40, 90, 40, 150), 65);
        });
        sentence("VALUE '(one of each)': the greatest one twice", () -> {
            is("90, 40, 90", valueOf(90, 40, 90), 90);
            is("90, 50, 90, 10", valueOf(90, 50, 90, 10), 70);
        });
        sentence("VALUE '(one of each)': all equal", () -> {
            is("three of 80", valueOf(80, 80, 80), 80);
            is("ten of 80", valueOf(80, 80, 80, 80, 80, 80, 80, 80, 80, 80), 80);
        });
        sentence("VALUE: three, the least ring 0", () -> is("0, 0, 9", valueOf(0, 0, 9), 0));
        sentence("VALUE: of ten the eight in the middle, rounded down", () -> {
            RingMasters x = tenPlaced();
            x.master(1023);
            is("10 .. 100", x.at(0, 100), 55);
            is("ten of 100", x.at(0, 101), 100);
            is("100 .. 190", x.at(0, 102), 145);
            is("687 / 8", valueOf(1, 80, 85, 86, 87, 86, 87, 88, 88, 199), 85);
        });
        sentence("VALUE 'none with depth 0'", () -> {
            RingMasters x = gapAndLast();
            is("before the gap", x.at(0, 2), 150);
            for (int year = 3; year <= 5; year++) {
                is("in the gap, " + year, x.at(0, year), NONE);
            }
            is("behind the gap", x.at(0, 6), 150);
        });
    }

    private static void stays() {
        sentence("MASTER 'stay as they were made': members placed elsewhere or floating", () -> {
            RingMasters x = tenPlaced();
            x.master(7);
            x.place(0, 0);
            x.place(1, 500);
            x.place(2, NONE);
            is("first", x.about(0, 0), 100);
            is("last", x.about(0, 1), 102);
            is("members", x.about(0, 2), 3);
            for (int year = 100; year <= 102; year++) {
                is("depth in " + year, x.depth(0, year), 3);
            }
            is("value", x.at(0, 100), 20);
            is("distance", x.distance(1, 0, 100, 0), 0);
            is("date", x.date(1, 0, 3), 100);
            is("left out, sum", x.leftOut(0, 0, 0), 15 + 0 + 15);
            is("left out, years", x.leftOut(0, 2, 1), 3);
        });
        sentence("MASTER 'stay as they were made': other series placed on its years", () -> {
            RingMasters x = tenSeries();
            x.place(0, 100);
            x.master(1023);
            x.place(1, 100);
            x.place(2, 99);
            is("members", x.about(0, 2), 1);
            is("first", x.about(0, 0), 100);
            is("depth", x.depth(0, 100), 1);
            is("value", x.at(0, 100), 10);
            is("left out", x.leftOut(0, 0, 1), 0);
            fails("left out, no member then", INDEX, () -> x.leftOut(0, 1, 1));
        });
        sentence("MASTER 'stay as they were made': later series and masters", () -> {
            RingMasters x = new RingMasters();
            addPlaced(x, 100, even(50, 100, 150));
            x.master(1023);
            addPlaced(x, 90, even(150, 100, 50));
            for (int m = 1; m < 8; m++) {
                x.master(1023);
            }
            is("members", x.about(0, 2), 1);
            is("first", x.about(0, 0), 100);
            is("value", x.at(0, 100), 50);
            is("members of the eighth", x.about(7, 2), 2);
        });
    }

    private static void masterCalls() {
        sentence("6 'its number': 0 .. 7", () -> {
            RingMasters x = tenPlaced();
            for (int m = 0; m < 8; m++) {
                is("master", x.master(1 << m), m);
                is("how many", x.count(2), m + 1);
            }
            is("of the first one", x.at(0, 100), 10);
            is("of the eighth", x.at(7, 100), 80);
        });
        sentence("6 'NONE, if it has no members': the empty set", () -> {
            RingMasters x = tenPlaced();
            is("master(0)", x.master(0), NONE);
            is("how many", x.count(2), 0);
        });
        sentence("6 'NONE, if it has no members': no series, or floating ones alone", () -> {
            is("no series", new RingMasters().master(1023), NONE);
            is("ten floating", tenSeries().master(1023), NONE);
            RingMasters x = tenPlaced();
            x.place(3, NONE);
            is("the one that floats", x.master(8), NONE);
            is("how many", x.count(2), 0);
        });
        sentence("6 'NONE': uses no number up", () -> {
            RingMasters x = tenPlaced();
            for (int i = 0; i < 9; i++) {
                is("master(0)", x.master(0), NONE);
            }
            is("the first", x.master(1), 0);
        });
        sentence("6 'there are eight': the eighth is the last", () -> {
            RingMasters x = tenPlaced();
            for (int m = 0; m < 7; m++) {
                x.master(1);
            }
            is("the eighth", x.master(1), 7);
            fails("a ninth", STATE, () -> x.master(1));
            is("how many", x.count(2), 8);
        });
        sentence("6 'there are eight': whatever the set is", () -> {
            for (int set : new int[] {0, 1, 512, 1023, -1, 1024, MIN, MAX}) {
                refuses("a ninth of " + set, STATE, Trial::full, x -> x.master(set));
            }
        });
        sentence("6 'the set is not 0 .. 1023': 0 and 1023 are", () -> {
            is("master(0)", some().master(0), NONE);
            is("master(1023)", some().master(1023), 1);
        });
        sentence("6 'the set is not 0 .. 1023': below", () -> {
            for (int set : new int[] {-1, -1023, MIN}) {
                refuses("master(" + set + ")", ARGUMENT, Trial::some, x -> x.master(set));
            }
        });
        sentence("6 'the set is not 0 .. 1023': above", () -> {
            for (int set : new int[] {1024, 1025, 1 << 30, MAX}) {
                refuses("master(" + set + ")", ARGUMENT, Trial::some, x -> x.master(set));
            }
        });
    }

    private static void abouts() {
        sentence("7 'first year (0), last one (1), how many members (2)'", () -> {
            RingMasters x = some();
            is("first", x.about(0, 0), 10);
            is("last", x.about(0, 1), 14);
            is("members", x.about(0, 2), 2);
        });
        sentence("7 'IndexOutOfBoundsException': no such what", () -> {
            for (int what : new int[] {-1, 3, MIN, MAX}) {
                refuses("about(0, " + what + ")", INDEX, Trial::some, x -> x.about(0, what));
            }
        });
        sentence("7 'IndexOutOfBoundsException': no such master", () -> {
            for (int m : new int[] {-1, 1, 7, 8, MIN, MAX}) {
                refuses("about(" + m + ", 0)", INDEX, Trial::some, x -> x.about(m, 0));
            }
        });
        sentence("7, 'At most eight masters': 0 and 7 are, no others", () -> {
            is("members of 0", full().about(0, 2), 9);
            is("members of 7", full().about(7, 2), 3);
            for (int m : NO_MASTER_OF_EIGHT) {
                refuses("about(" + m + ", 2)", INDEX, Trial::full, x -> x.about(m, 2));
            }
        });
    }

    private static void yearsOfMaster() {
        sentence("8 'NONE with depth 0'", () -> {
            is("in the gap's first year", gapAndLast().at(0, 3), NONE);
            is("in its last one", gapAndLast().at(0, 5), NONE);
        });
        sentence("8 'the year is none of its own': the first and the last one are", () -> {
            RingMasters x = gapAndLast();
            is("year 0", x.at(0, 0), 50);
            is("year 8", x.at(0, 8), 50);
            is("year 500", x.at(1, 500), 100);
            is("year 529", x.at(1, 529), 100);
        });
        sentence("8 'the year is none of its own': before and behind", () -> {
            for (int year : new int[] {-1, 9, 500, -1000, MIN, MAX}) {
                refuses("at(0, " + year + ")", INDEX, MasterBoundaryTest::gapAndLast,
                    x -> x.at(0, year));
            }
            for (int year : new int[] {0, 499, 530, MIN, MIN + 500, MAX}) {
                refuses("at(1, " + year + ")", INDEX, MasterBoundaryTest::gapAndLast,
                    x -> x.at(1, year));
            }
        });
        sentence("8 'IndexOutOfBoundsException: master'", () -> {
            for (int m : new int[] {-1, 2, MIN, MAX}) {
                refuses("at(" + m + ", 500)", INDEX, MasterBoundaryTest::gapAndLast,
                    x -> x.at(m, 500));
            }
            is("the eighth", full().at(7, 20), 10);
            for (int m : NO_MASTER_OF_EIGHT) {
                refuses("at(" + m + ", 20)", INDEX, Trial::full, x -> x.at(m, 20));
            }
        });
        sentence("9 'Its depth in a year': 0 in a gap", () -> {
            is("in the gap's first year", gapAndLast().depth(0, 3), 0);
            is("in its last one", gapAndLast().depth(0, 5), 0);
        });
        sentence("9 'likewise': the first and the last year are its own", () -> {
            RingMasters x = gapAndLast();
            is("year 0", x.depth(0, 0), 1);
            is("year 8", x.depth(0, 8), 1);
            is("year 500", x.depth(1, 500), 1);
            is("year 529", x.depth(1, 529), 1);
        });
        sentence("9 'likewise': before and behind", () -> {
            for (int year : new int[] {-1, 9, 500, -1000, MIN, MAX}) {
                refuses("depth(0, " + year + ")", INDEX, MasterBoundaryTest::gapAndLast,
                    x -> x.depth(0, year));
            }
            for (int year : new int[] {0, 499, 530, MIN, MIN + 500, MAX}) {
                refuses("depth(1, " + year + ")", INDEX, MasterBoundaryTest::gapAndLast,
                    x -> x.depth(1, year));
            }
        });
        sentence("9 'likewise': master", () -> {
            for (int m : new int[] {-1, 2, MIN, MAX}) {
                refuses("depth(" + m + ", 500)", INDEX, MasterBoundaryTest::gapAndLast,
                    x -> x.depth(m, 500));
            }
            is("the eighth", full().depth(7, 20), 1);
            for (int m : NO_MASTER_OF_EIGHT) {
                refuses("depth(" + m + ", 20)", INDEX, Trial::full, x -> x.depth(m, 20));
            }
        });
    }

    private static void leftOutYears() {
        sentence("10 '0 years if there are none': the one member", () -> {
            RingMasters x = tenPlaced();
            x.master(1);
            is("sum", x.leftOut(0, 0, 0), 0);
            is("years", x.leftOut(0, 0, 1), 0);
        });
        sentence("10 '0 years if there are none': others in other years alone", () -> {
            RingMasters x = gapAndLast();
            is("sum", x.leftOut(0, 1, 0), 0);
            is("years", x.leftOut(0, 1, 1), 0);
        });
        sentence("10: others right before and right behind it have none of its years", () -> {
            RingMasters x = tenSeries();
            x.place(0, 97);
            x.place(1, 100);
            x.place(2, 103);
            x.master(7);
            is("years", x.leftOut(0, 1, 1), 0);
            x.place(0, 98);
            x.place(2, 102);
            x.master(7);
            is("its first and its last year", x.leftOut(1, 1, 1), 2);
            is("their sum", x.leftOut(1, 1, 0), 190 - 20 + 180 - 30);
        });
        sentence("10: years where the others have a gap do not count", () -> {
            RingMasters x = gapAndLast();
            addPlaced(x, 0, same(30, 100));
            x.master(11);
            is("years", x.leftOut(2, 3, 1), 6);
            is("sum", x.leftOut(2, 3, 0), 4 * 50);
        });
        sentence("10 '(where it lay when the master was made)'", () -> {
            RingMasters x = tenPlaced();
            x.master(3);
            x.place(0, 101);
            is("sum, placed anew", x.leftOut(0, 0, 0), 10 + 0 + 10);
            x.place(0, NONE);
            is("sum, floating", x.leftOut(0, 0, 0), 10 + 0 + 10);
            x.place(1, 0);
            is("sum, the other one placed anew", x.leftOut(0, 0, 0), 10 + 0 + 10);
            is("years", x.leftOut(0, 0, 1), 3);
        });
    }

    private static void leftOutValues() {
        sentence("10 'the values that the others alone would give': of one", () -> {
            RingMasters x = tenPlaced();
            x.master(513);
            is("sum", x.leftOut(0, 9, 0), 90 + 0 + 90);
        });
        sentence("10 'the values that the others alone would give': of two the mean", () -> {
            RingMasters x = tenPlaced();
            x.master(1 + 2 + 512);
            is("left out 10, of 20 and 100", x.leftOut(0, 0, 0), 50 + 0 + 50);
            is("left out 20, of 10 and 100", x.leftOut(0, 1, 0), 35 + 0 + 35);
        });
        sentence("10 'the values that the others alone would give': of three the middle one", () -> {
            RingMasters x = tenPlaced();
            x.master(1 + 2 + 4 + 512);
            is("left out 10, of 20, 30 and 100", x.leftOut(0, 0, 0), 20 + 0 + 20);
        });
        sentence("10 'the values that the others alone would give': of nine", () -> {
            RingMasters x = tenPlaced();
            x.master(1023);
            is("left out 10, the mean of 30 .. 90", x.leftOut(0, 0, 0), 50 + 0 + 50);
            is("left out 100, the mean of 20 .. 80", x.leftOut(0, 9, 0), 50 + 0 + 50);
            is("years", x.leftOut(0, 9, 1), 3);
        });
        sentence("10: a value of 0 is one", () -> {
            RingMasters x = new RingMasters();
            addPlaced(x, 5, 1, 400, 500);
            addPlaced(x, 3, even(100, 150, 50));
            x.master(3);
            is("years", x.leftOut(0, 1, 1), 1);
            is("sum", x.leftOut(0, 1, 0), 50);
        });
    }

    private static void leftOutRefused() {
        sentence("10 'IndexOutOfBoundsException: master'", () -> {
            for (int m : new int[] {-1, 1, 8, MIN, MAX}) {
                refuses("leftOut(" + m + ", 0, 0)", INDEX, Trial::some, x -> x.leftOut(m, 0, 0));
            }
            is("the eighth", full().leftOut(7, 0, 1), 2);
            for (int m : NO_MASTER_OF_EIGHT) {
                refuses("leftOut(" + m + ", 0, 0)", INDEX, Trial::full, x -> x.leftOut(m, 0, 0));
            }
        });
        sentence("10 'IndexOutOfBoundsException: .. what'", () -> {
            is("sum", some().leftOut(0, 0, 0), 20 + 70);
            is("years", some().leftOut(0, 0, 1), 2);
            for (int what : new int[] {-1, 2, MIN, MAX}) {
                refuses("leftOut(0, 0, " + what + ")", INDEX, Trial::some,
                    x -> x.leftOut(0, 0, what));
            }
        });
        sentence("10 'the series is no member': not there", () -> {
            for (int s : new int[] {-1, 3, 9, 10, 32, MIN, MAX}) {
                refuses("leftOut(0, " + s + ", 0)", INDEX, Trial::some, x -> x.leftOut(0, s, 0));
            }
            for (int s : new int[] {-1, 10, 11, 32, MIN, MAX}) {
                refuses("leftOut(0, " + s + ", 0)", INDEX, Trial::full, x -> x.leftOut(0, s, 0));
            }
        });
        sentence("10 'the series is no member': it floated", () -> {
            refuses("leftOut(0, 2, 0)", INDEX, Trial::some, x -> x.leftOut(0, 2, 0));
            RingMasters x = some();
            x.place(2, 10);
            fails("placed since", INDEX, () -> x.leftOut(0, 2, 0));
        });
        sentence("10 'the series is no member': not of the set", () -> {
            refuses("leftOut(7, 3, 0)", INDEX, Trial::full, x -> x.leftOut(7, 3, 0));
            is("the last one that is", full().leftOut(7, 2, 1), 2);
        });
        sentence("10 'the series is no member': made behind the master", () -> {
            RingMasters x = some();
            rings(x, 2);
            x.place(x.series(), 10);
            fails("leftOut(0, 3, 0)", INDEX, () -> x.leftOut(0, 3, 0));
        });
    }
}
