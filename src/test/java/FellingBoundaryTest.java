/** The boundary cases of promises 15 to 18. */
public final class FellingBoundaryTest extends Trial {
    public static void main(String[] args) {
        sapwoods();
        sapwoodRefused();
        fellingYears();
        fellingShares();
        fellingNone();
        fellingAllowed();
        fellingRefused();
        sameTreeYears();
        sameTreeSums();
        sameTreeRefused();
        counts();
        end("the boundaries of felling, trees and counts hold");
    }

    /** A series of the years 100 .. 105, and the weights of 0, 1, .. rings of sapwood. */
    private static RingMasters tree(int... weights) {
        RingMasters x = new RingMasters();
        addPlaced(x, 100, same(6, 5));
        for (int n = 0; n < weights.length; n++) {
            x.sapwood(n, weights[n]);
        }
        return x;
    }

    private static void sapwoods() {
        sentence("15 'what it was (0 at first)'", () -> {
            RingMasters x = new RingMasters();
            is("at first", x.sapwood(7, 10), 0);
            is("then", x.sapwood(7, 0), 10);
            is("0 again", x.sapwood(7, 5), 0);
            is("at last", x.sapwood(7, 5), 5);
        });
        sentence("15 'rings is not 0 .. 60': 0 and 60 are, each for itself", () -> {
            RingMasters x = new RingMasters();
            for (int n = 0; n <= 60; n++) {
                is("weight of " + n + " at first", x.sapwood(n, n + 1), 0);
            }
            for (int n = 0; n <= 60; n++) {
                is("weight of " + n, x.sapwood(n, 0), n + 1);
            }
        });
        sentence("15 'w not 0 .. 10000': 0 and 10000 are", () -> {
            RingMasters x = new RingMasters();
            x.sapwood(60, 10000);
            is("10000", x.sapwood(60, 0), 10000);
            is("0", x.sapwood(60, 0), 0);
        });
    }

    private static void sapwoodRefused() {
        sentence("15 'rings is not 0 .. 60'", () -> {
            for (int n : new int[] {-1, 61, 62, MIN, MAX}) {
                refuses("sapwood(" + n + ", 5)", ARGUMENT, Trial::some, x -> x.sapwood(n, 5));
                refuses("sapwood(" + n + ", 0)", ARGUMENT, Trial::some, x -> x.sapwood(n, 0));
            }
        });
        sentence("15 'or w not 0 .. 10000'", () -> {
            for (int w : new int[] {-1, 10001, MIN, MAX}) {
                refuses("sapwood(3, " + w + ")", ARGUMENT, Trial::some, x -> x.sapwood(3, w));
                refuses("sapwood(0, " + w + ")", ARGUMENT, Trial::some, x -> x.sapwood(0, w));
                refuses("sapwood(60, " + w + ")", ARGUMENT, Trial::some, x -> x.sapwood(60, w));
            }
        });
        sentence("15: both wrong", () -> {
            refuses("sapwood(-1, -1)", ARGUMENT, Trial::some, x -> x.sapwood(-1, -1));
            refuses("sapwood(61, 10001)", ARGUMENT, Trial::some, x -> x.sapwood(61, 10001));
        });
    }

    private static void fellingYears() {
        sentence("16 'whose last SAP rings are sapwood': none", () ->
            is("felled with its last ring", tree(1).felling(0, 0, 1, 1), 105105));
        sentence("16 'whose last SAP rings are sapwood': all", () ->
            is("heartwood up to 99", tree(0, 0, 0, 0, 0, 0, 1).felling(0, 6, 1, 1), 105105));
        sentence("16 'whose last SAP rings are sapwood': all, from year 0 on", () -> {
            RingMasters x = tree(0, 0, 0, 0, 0, 0, 1, 1);
            x.place(0, 0);
            is("heartwood up to -1", x.felling(0, 6, 1, 1), 5006);
        });
        sentence("16 'so many rings of sapwood': 60, the most", () -> {
            RingMasters x = tree();
            x.sapwood(60, 1);
            is("no sapwood there", x.felling(0, 0, 1, 1), 165165);
            is("all of it sapwood", x.felling(0, 6, 1, 1), 159159);
        });
        sentence("16 '1000 * first + last': the latest years", () -> {
            RingMasters x = new RingMasters();
            addPlaced(x, 500, same(30, 5));
            x.sapwood(0, 1);
            x.sapwood(60, 1);
            is("529 .. 589", x.felling(0, 0, 1, 1), 529589);
            x.sapwood(30, 10000);
            is("529 .. 559", x.felling(0, 30, 1, 1), 529559);
        });
        sentence("16 '1000 * first + last': the earliest years", () -> {
            RingMasters x = new RingMasters();
            addPlaced(x, 0, 5, 5, 5);
            x.sapwood(0, 1);
            x.sapwood(3, 1);
            is("2 .. 5", x.felling(0, 0, 1, 1), 2005);
            is("2 .. 2", x.felling(0, 3, 1, 1), 2002);
        });
        sentence("16 'the shortest row of years'", () -> {
            is("one year alone", tree(3, 3, 3, 9).felling(0, 0, 1, 2), 108108);
            is("two before three", tree(2, 2, 2, 0, 3, 3).felling(0, 0, 1, 2), 109110);
            is("the whole row", tree(1, 0, 0, 0, 1).felling(0, 0, 1, 1), 105109);
        });
        sentence("16 'of equal ones the first'", () -> {
            is("of three alike", tree(0, 4, 4, 4).felling(0, 0, 1, 3), 106106);
            is("not the heaviest", tree(5, 5, 6).felling(0, 0, 5, 16), 105105);
            is("of two pairs", tree(3, 3, 0, 3, 4).felling(0, 0, 6, 13), 105106);
        });
    }

    private static void fellingShares() {
        sentence("16 'at least ABOVE of BELOW': just so much", () -> {
            is("a third", tree(1, 1, 1).felling(0, 0, 1, 3), 105105);
            is("333 of 1000", tree(1, 1, 1).felling(0, 0, 333, 1000), 105105);
            is("334 of 1000", tree(1, 1, 1).felling(0, 0, 334, 1000), 105106);
            is("two thirds", tree(1, 1, 1).felling(0, 0, 2, 3), 105106);
            is("667 of 1000", tree(1, 1, 1).felling(0, 0, 667, 1000), 105107);
        });
        sentence("16 'at least ABOVE of BELOW': one weight more or less", () -> {
            is("5000 of 9999", tree(5000, 4999).felling(0, 0, 1, 2), 105105);
            is("5000 of 10001", tree(5000, 5001).felling(0, 0, 1, 2), 106106);
            is("5000 of 10000", tree(5000, 5000).felling(0, 0, 1, 2), 105105);
            is("4999 of 9999", tree(4999, 1, 4999).felling(0, 0, 1, 2), 105106);
        });
        sentence("16 'at least ABOVE of BELOW': all, and next to nothing", () -> {
            RingMasters x = tree();
            for (int n = 0; n <= 60; n++) {
                x.sapwood(n, 10000);
            }
            is("1000 of 1000", x.felling(0, 0, 1000, 1000), 105165);
            is("999 of 1000", x.felling(0, 0, 999, 1000), 105165);
            is("60 of 61", x.felling(0, 0, 60, 61), 105164);
            is("1 of 61", x.felling(0, 0, 1, 61), 105105);
            is("1 of 60", x.felling(0, 0, 1, 60), 105106);
            is("1 of 1000", x.felling(0, 0, 1, 1000), 105105);
        });
        sentence("16 'of all numbers not below sap': sap itself is one", () -> {
            is("sap 2", tree(9, 9, 1, 1).felling(0, 2, 1, 1), 105106);
            is("sap 3", tree(9, 9, 1, 1).felling(0, 3, 1, 1), 105105);
        });
        sentence("16 'of all numbers not below sap': no weight below it helps", () -> {
            is("sap 1", tree(10000, 1, 1, 2).felling(0, 1, 1, 2), 107107);
            is("sap 2", tree(10000, 10000, 1, 1).felling(0, 2, 1, 2), 105105);
        });
    }

    private static void fellingNone() {
        sentence("16 'NONE if these are 0': all are", () -> {
            is("sap 0", tree().felling(0, 0, 1, 1), NONE);
            is("sap 6", tree().felling(0, 6, 1, 1000), NONE);
        });
        sentence("16 'NONE if these are 0': there are some below sap", () -> {
            is("sap 3", tree(5, 5, 5).felling(0, 3, 1, 1), NONE);
            is("sap 2", tree(5, 5, 5).felling(0, 2, 1, 1), 105105);
        });
        sentence("16 'NONE if these are 0': one of 1 is enough", () -> {
            RingMasters x = tree();
            x.sapwood(60, 1);
            is("1 of 1000", x.felling(0, 6, 1, 1000), 159159);
        });
        sentence("16 'NONE if these are 0': taken away again", () -> {
            RingMasters x = tree(0, 5);
            x.sapwood(1, 0);
            is("sap 0", x.felling(0, 0, 1, 1), NONE);
        });
    }

    private static void fellingAllowed() {
        sentence("16 'sap is not 0 .. its rings': 0 and its rings are", () -> {
            RingMasters x = new RingMasters();
            addPlaced(x, 10, 5, 5, 5);
            addPlaced(x, 10, same(30, 5));
            x.sapwood(30, 1);
            is("0 of three", x.felling(0, 0, 1, 1), 42042);
            is("three of three", x.felling(0, 3, 1, 1), 39039);
            is("30 of thirty", x.felling(1, 30, 1, 1), 39039);
        });
        sentence("16 '1 <= above <= below <= 1000': the ends", () -> {
            RingMasters x = tree(1);
            is("1 of 1", x.felling(0, 0, 1, 1), 105105);
            is("1 of 1000", x.felling(0, 0, 1, 1000), 105105);
            is("1000 of 1000", x.felling(0, 0, 1000, 1000), 105105);
        });
    }

    private static void fellingRefused() {
        Maker weighed = () -> tree(1, 2, 3, 2, 1);
        sentence("16 'sap is not 0 .. its rings'", () -> {
            for (int sap : new int[] {-1, 7, 30, 60, MIN, MAX}) {
                refuses("sap " + sap, ARGUMENT, weighed, x -> x.felling(0, sap, 1, 1));
            }
            RingMasters x = new RingMasters();
            addPlaced(x, 10, same(30, 5));
            fails("31 of thirty", ARGUMENT, () -> x.felling(0, 31, 1, 1));
        });
        sentence("16 'not 1 <= above'", () -> {
            for (int above : new int[] {0, -1, MIN}) {
                refuses("above " + above, ARGUMENT, weighed, x -> x.felling(0, 0, above, 1));
                refuses("above " + above + " of itself", ARGUMENT, weighed,
                    x -> x.felling(0, 0, above, above));
            }
        });
        sentence("16 'not .. above <= below'", () -> {
            refuses("2 of 1", ARGUMENT, weighed, x -> x.felling(0, 0, 2, 1));
            refuses("1 of 0", ARGUMENT, weighed, x -> x.felling(0, 0, 1, 0));
            refuses("1000 of 999", ARGUMENT, weighed, x -> x.felling(0, 0, 1000, 999));
            refuses("1 of MIN", ARGUMENT, weighed, x -> x.felling(0, 0, 1, MIN));
            refuses("MAX of 1000", ARGUMENT, weighed, x -> x.felling(0, 0, MAX, 1000));
        });
        sentence("16 'not .. below <= 1000'", () -> {
            for (int below : new int[] {1001, MAX}) {
                refuses("1 of " + below, ARGUMENT, weighed, x -> x.felling(0, 0, 1, below));
                refuses("all of " + below, ARGUMENT, weighed,
                    x -> x.felling(0, 0, below, below));
            }
        });
        sentence("16 'IllegalStateException: it floats': at first, and again", () -> {
            refuses("at first", STATE, Trial::some, x -> x.felling(2, 0, 1, 1));
            refuses("again", STATE, () -> {
                RingMasters x = tree(1);
                x.place(0, NONE);
                return x;
            }, x -> x.felling(0, 0, 1, 1));
            is("in year 0 it does not", placedAt(0).felling(0, 0, 1, 1), 5005);
            is("in year 500 it does not", placedAt(500).felling(0, 0, 1, 1), 505505);
        });
        sentence("16 'IndexOutOfBoundsException'", () -> {
            is("series 1 is there", some().felling(1, 4, 1, 1), 70070);
            for (int s : new int[] {-1, 3, 9, 10, MIN, MAX}) {
                refuses("series " + s, INDEX, Trial::some, x -> x.felling(s, 0, 1, 1));
            }
            fails("series 9 of ten is there, and floats", STATE,
                () -> full().felling(9, 0, 1, 1));
            refuses("series 10 of ten", INDEX, Trial::full, x -> x.felling(10, 0, 1, 1));
        });
    }

    private static RingMasters placedAt(int year) {
        RingMasters x = tree(1);
        x.place(0, year);
        return x;
    }

    /** Two flat series of six rings. */
    private static RingMasters two(int oneYear, int otherYear) {
        RingMasters x = new RingMasters();
        addPlaced(x, oneYear, same(6, 5));
        addPlaced(x, otherYear, same(6, 9));
        return x;
    }

    private static void bothWays(String what, RingMasters x, boolean due) {
        is(what, x.sameTree(0, 1), due);
        is(what + ", the other way", x.sameTree(1, 0), due);
    }

    private static void sameTreeYears() {
        sentence("17 'at least five years in common': five and four", () -> {
            bothWays("six", two(10, 10), true);
            bothWays("five", two(10, 11), true);
            bothWays("four", two(10, 12), false);
            bothWays("one", two(10, 15), false);
            bothWays("none", two(10, 16), false);
            bothWays("far away", two(0, 500), false);
        });
        sentence("17 'at least five years in common': a short one within a long one", () -> {
            RingMasters x = new RingMasters();
            addPlaced(x, 0, same(30, 5));
            addPlaced(x, 25, same(5, 5));
            bothWays("five rings in its last years", x, true);
            x.place(1, 26);
            bothWays("one of them behind it", x, false);
            x.place(1, 0);
            bothWays("in its first years", x, true);
        });
        sentence("17 'at least five years in common': four rings never have", () -> {
            RingMasters x = new RingMasters();
            addPlaced(x, 0, same(4, 5));
            addPlaced(x, 0, same(4, 5));
            bothWays("four rings", x, false);
            is("with itself", x.sameTree(0, 0), false);
        });
        sentence("17 'at least five years in common': evened rings of 0 are some", () -> {
            RingMasters x = new RingMasters();
            addPlaced(x, 0, 1, 1, 1, 1, 896);
            addPlaced(x, 0, 1, 1, 1, 1, 897);
            is("evened", x.evened(0, 0), 0);
            bothWays("four of 0, one of 400", x, true);
        });
        sentence("17: a series with itself", () -> {
            RingMasters x = new RingMasters();
            addPlaced(x, 500, even(1, 2, 3, 94, 400));
            is("five rings", x.sameTree(0, 0), true);
        });
        sentence("17 'no, if one floats'", () -> {
            RingMasters x = two(10, 10);
            x.place(0, NONE);
            bothWays("one of them", x, false);
            is("with itself", x.sameTree(0, 0), false);
            is("the other one with itself", x.sameTree(1, 1), true);
            x.place(1, NONE);
            bothWays("both", x, false);
        });
        sentence("17 'no, if one floats': that is no year before 0", () -> {
            RingMasters x = two(0, 0);
            x.place(1, NONE);
            bothWays("beside year 0", x, false);
        });
    }

    /** A flat series, and one that begins a year later: five years in common. */
    private static RingMasters flatBeside(int... widths) {
        RingMasters x = new RingMasters();
        addPlaced(x, 10, same(6, 100));
        addPlaced(x, 11, even(widths));
        return x;
    }

    private static void sameTreeSums() {
        sentence("17 'not above 15 times these years': just so much", () -> {
            bothWays("75, wider", flatBeside(115, 115, 115, 115, 115, 25), true);
            bothWays("75, narrower", flatBeside(85, 85, 85, 85, 85, 175), true);
            bothWays("75, in one year", flatBeside(175, 100, 100, 100, 100, 25), true);
        });
        sentence("17 'not above 15 times these years': one more", () -> {
            bothWays("76, wider", flatBeside(116, 115, 115, 115, 115, 24), false);
            bothWays("76, narrower", flatBeside(85, 85, 85, 85, 84, 176), false);
        });
        sentence("17 'differences (absolute)': they do not weigh one another up", () -> {
            bothWays("160", flatBeside(140, 60, 140, 60, 100, 100), false);
        });
        sentence("17 'these years': those in common alone", () -> {
            bothWays("the sixth ring is far off", flatBeside(110, 110, 110, 110, 110, 50), true);
        });
        sentence("17 'these years': more of them let more be", () -> {
            RingMasters x = flatBeside(115, 85, 115, 85, 115, 85);
            x.place(1, 10);
            bothWays("90 in six years", x, true);
            RingMasters y = flatBeside(115, 85, 115, 84, 116, 85);
            y.place(1, 10);
            bothWays("92 in six years", y, false);
        });
    }

    private static void sameTreeRefused() {
        sentence("17 'IndexOutOfBoundsException'", () -> {
            for (int s : new int[] {-1, 3, 9, 10, MIN, MAX}) {
                refuses("a " + s, INDEX, Trial::some, x -> x.sameTree(s, 0));
                refuses("b " + s, INDEX, Trial::some, x -> x.sameTree(0, s));
                refuses("both " + s, INDEX, Trial::some, x -> x.sameTree(s, s));
            }
        });
        sentence("17 'IndexOutOfBoundsException': the other one floats", () -> {
            refuses("a 3", INDEX, Trial::some, x -> x.sameTree(3, 2));
            refuses("b 3", INDEX, Trial::some, x -> x.sameTree(2, 3));
        });
        sentence("17 'IndexOutOfBoundsException': of ten series", () -> {
            is("9 and 0", full().sameTree(9, 0), false);
            is("0 and 9", full().sameTree(0, 9), false);
            refuses("a 10", INDEX, Trial::full, x -> x.sameTree(10, 0));
            refuses("b 10", INDEX, Trial::full, x -> x.sameTree(0, 10));
        });
    }

    private static void counts() {
        sentence("18: as few as there can be", () -> {
            for (int what = 0; what < 4; what++) {
                is("count(" + what + ")", new RingMasters().count(what), 0);
            }
        });
        sentence("18: as many as there may be", () -> {
            is("rings of the pad", full().count(0), 30);
            is("series", full().count(1), 10);
            is("masters", full().count(2), 8);
            is("floating series", tenSeries().count(3), 10);
        });
        sentence("18 '3 floating series': one of ten, and none", () -> {
            RingMasters x = full();
            is("one", x.count(3), 1);
            x.place(9, 500);
            is("none", x.count(3), 0);
            x.place(0, NONE);
            is("one again", x.count(3), 1);
        });
        sentence("18 '3 floating series': one that lies in year 0 does not float", () -> {
            RingMasters x = new RingMasters();
            addPlaced(x, 0, 5, 5, 5);
            is("none", x.count(3), 0);
        });
        sentence("18: each counts its own", () -> {
            is("rings of the pad", some().count(0), 1);
            is("series", some().count(1), 3);
            is("masters", some().count(2), 1);
            is("floating series", some().count(3), 1);
        });
        sentence("18 'none of these'", () -> {
            for (int what : new int[] {-1, 4, 5, MIN, MAX}) {
                refuses("count(" + what + ")", INDEX, Trial::some, x -> x.count(what));
                refuses("count(" + what + ") of a new one", INDEX, RingMasters::new,
                    x -> x.count(what));
            }
        });
    }
}
