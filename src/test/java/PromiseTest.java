/** One method for each promise: ordinary inputs, the edges that the document names, wrong inputs. */
public final class PromiseTest extends Trial {
    public static void main(String[] args) {
        newObject();
        ring();
        series();
        evened();
        place();
        master();
        masterStays();
        about();
        at();
        depth();
        leftOut();
        distance();
        date();
        dateOfEquals();
        agrees();
        source();
        sourceOfEquals();
        sapwood();
        felling();
        fellingEdges();
        sameTree();
        count();
        end("all promises hold");
    }

    private static void newObject() {
        RingMasters x = new RingMasters();
        for (int what = 0; what < 4; what++) {
            is("1: count(" + what + ")", x.count(what), 0);
        }
        is("1: NONE", RingMasters.NONE, -1);
        for (int rings = 0; rings <= 60; rings++) {
            is("1: sapwood(" + rings + ", 0)", x.sapwood(rings, 0), 0);
        }
        RingMasters other = new RingMasters();
        x.ring(7);
        is("1: objects share no pad", other.count(0), 0);
    }

    private static void ring() {
        RingMasters x = new RingMasters();
        is("2: ring(1)", x.ring(1), 1);
        is("2: ring(900)", x.ring(900), 2);
        for (int w : new int[] {0, -1, 901, MIN, MAX}) {
            fails("2: ring(" + w + ")", ARGUMENT, () -> x.ring(w));
        }
        is("2: pad after wrong widths", x.count(0), 2);
        for (int n = 3; n <= 30; n++) {
            is("2: ring " + n, x.ring(5), n);
        }
        fails("2: ring 31", STATE, () -> x.ring(5));
        fails("2: ring 31 of a wrong width", STATE, () -> x.ring(0));
        is("2: full pad", x.count(0), 30);
        is("2: series of the full pad", x.series(), 0);
        is("2: the pad is free again", x.ring(5), 1);
    }

    private static void series() {
        RingMasters x = new RingMasters();
        is("3: empty pad", x.series(), -1);
        x.ring(1);
        x.ring(2);
        is("3: two rings", x.series(), -1);
        is("3: they stay", x.count(0), 2);
        x.ring(3);
        is("3: three rings", x.series(), 0);
        is("3: the pad is empty", x.count(0), 0);
        is("3: first width stayed", x.evened(0, 0), 50);
        for (int n = 1; n < 10; n++) {
            is("3: series " + n, add(x, 4, 4, 4), n);
        }
        fails("3: an eleventh, of nothing", STATE, x::series);
        x.ring(1);
        x.ring(1);
        x.ring(1);
        fails("3: an eleventh", STATE, x::series);
        is("3: its pad stays", x.count(0), 3);
        is("3: ten series", x.count(1), 10);
    }

    private static void evened() {
        RingMasters x = new RingMasters();
        add(x, 1, 1, 1, 4);
        is("4: length", x.evened(0, -1), 4);
        is("4: 100*1*4/7 rounded down", x.evened(0, 0), 57);
        is("4: 100*4*4/7 rounded down", x.evened(0, 3), 228);
        add(x, 900, 1, 1, 1, 1);
        is("4: 400 at most", x.evened(1, 0), 400);
        is("4: below one", x.evened(1, 4), 0);
        add(x, 4, 1, 1, 1, 1);
        is("4: 100*4*5/8", x.evened(2, 0), 250);
        add(x, 8, 1, 1, 1, 1, 1, 1, 1, 1);
        is("4: just 450 is cut", x.evened(3, 0), 400);
        fails("4: ring behind", INDEX, () -> x.evened(0, 4));
        fails("4: ring -2", INDEX, () -> x.evened(0, -2));
        fails("4: ring MAX", INDEX, () -> x.evened(0, MAX));
        fails("4: ring MIN", INDEX, () -> x.evened(0, MIN));
        fails("4: series 4", INDEX, () -> x.evened(4, -1));
        fails("4: series -1", INDEX, () -> x.evened(-1, 0));
        fails("4: series 10", INDEX, () -> x.evened(10, 0));
    }

    private static void place() {
        RingMasters x = new RingMasters();
        add(x, 5, 5, 5);
        is("5: floating before", x.place(0, 0), -1);
        is("5: 0 before", x.place(0, 500), 0);
        is("5: 500 before", x.place(0, -1), 500);
        is("5: floats again", x.place(0, 7), -1);
        for (int year : new int[] {-2, 501, MIN, MAX}) {
            fails("5: year " + year, ARGUMENT, () -> x.place(0, year));
        }
        fails("5: series and year", INDEX, () -> x.place(1, 501));
        fails("5: series -1", INDEX, () -> x.place(-1, 5));
        is("5: still there", x.place(0, 7), 7);
    }

    private static void master() {
        RingMasters x = new RingMasters();
        is("6: no series", x.master(1023), -1);
        fails("6: set -1", ARGUMENT, () -> x.master(-1));
        fails("6: set 1024", ARGUMENT, () -> x.master(1024));
        fails("6: set MIN", ARGUMENT, () -> x.master(MIN));
        add(x, 5, 5, 5);
        is("6: floating", x.master(1), -1);
        x.place(0, 3);
        is("6: empty set", x.master(0), -1);
        is("6: others alone", x.master(1022), -1);
        for (int n = 0; n < 8; n++) {
            is("6: master " + n, x.master(1023), n);
        }
        fails("6: a ninth", STATE, () -> x.master(1));
        fails("6: a ninth of nothing", STATE, () -> x.master(0));
        fails("6: a ninth of a wrong set", STATE, () -> x.master(-1));
        is("6: eight masters", x.count(2), 8);
    }

    private static void masterStays() {
        RingMasters x = new RingMasters();
        addPlaced(x, 10, 1, 2, 3);
        addPlaced(x, 11, 3, 2, 1);
        x.master(3);
        x.place(0, 300);
        x.place(1, -1);
        add(x, 9, 9, 9);
        x.place(2, 10);
        is("6: first year stays", x.about(0, 0), 10);
        is("6: last year stays", x.about(0, 1), 13);
        is("6: members stay", x.about(0, 2), 2);
        is("6: value stays", x.at(0, 11), 125);
        is("6: depth stays", x.depth(0, 11), 2);
        is("6: left out where it lay", x.leftOut(0, 0, 1), 2);
        is("6: left out where it lay, sum", x.leftOut(0, 0, 0), 50 + 50);
        is("6: floating now, member then", x.leftOut(0, 1, 1), 2);
        is("6: the next one is of what is placed now", x.master(7), 1);
        is("6: its first year", x.about(1, 0), 10);
        is("6: its last year", x.about(1, 1), 302);
        is("6: its members", x.about(1, 2), 2);
    }

    private static void about() {
        RingMasters x = new RingMasters();
        addPlaced(x, 500, same(30, 9));
        addPlaced(x, 0, 9, 9, 9);
        addPlaced(x, 4, 9, 9, 9);
        x.master(7);
        is("7: first", x.about(0, 0), 0);
        is("7: last", x.about(0, 1), 529);
        is("7: members", x.about(0, 2), 3);
        fails("7: what 3", INDEX, () -> x.about(0, 3));
        fails("7: what -1", INDEX, () -> x.about(0, -1));
        fails("7: master 1", INDEX, () -> x.about(1, 0));
        fails("7: master -1", INDEX, () -> x.about(-1, 0));
        fails("7: master 8", INDEX, () -> x.about(8, 0));
        x.master(6);
        is("7: the first year need not be the first member's", x.about(1, 1), 6);
    }

    private static void at() {
        RingMasters x = new RingMasters();
        addPlaced(x, 20, 1, 2, 3, 4);
        addPlaced(x, 20, 2, 2, 2);
        addPlaced(x, 20, 4, 1, 1);
        addPlaced(x, 20, 1, 1, 4);
        addPlaced(x, 30, 3, 2, 1);
        x.master(1);
        x.master(3);
        x.master(7);
        x.master(15);
        x.master(31);
        is("8: of one", x.at(0, 20), 40);
        is("8: of two", x.at(1, 20), 70);
        is("8: of three, the middle", x.at(2, 20), 100);
        is("8: of four 40, 100, 200, 50", x.at(3, 20), 75);
        is("8: of four 120, 100, 50, 200", x.at(3, 22), 110);
        is("8: of four 80, 100, 50, 50: one least alone goes", x.at(3, 21), 65);
        is("8: of one again", x.at(3, 23), 160);
        is("8: depth 0", x.at(4, 24), -1);
        is("8: depth 0, last", x.at(4, 29), -1);
        is("8: behind the gap", x.at(4, 30), 150);
        fails("8: year before", INDEX, () -> x.at(0, 19));
        fails("8: year behind", INDEX, () -> x.at(0, 24));
        fails("8: year MAX", INDEX, () -> x.at(0, MAX));
        fails("8: year MIN", INDEX, () -> x.at(0, MIN));
        fails("8: master 5", INDEX, () -> x.at(5, 20));
        fails("8: master -1", INDEX, () -> x.at(-1, 20));
        RingMasters y = new RingMasters();
        addPlaced(y, 0, 1, 1, 1, 4);
        addPlaced(y, 0, 1, 1, 1);
        y.master(3);
        is("8: (57 + 100) / 2 rounded down", y.at(0, 0), 78);
    }

    private static void depth() {
        RingMasters x = new RingMasters();
        addPlaced(x, 5, 1, 2, 3);
        addPlaced(x, 6, 1, 2, 3);
        addPlaced(x, 7, 1, 2, 3);
        addPlaced(x, 20, 1, 900, 1, 1, 1, 1, 1, 1);
        x.master(15);
        int[] want = {1, 2, 3, 2, 1, 0};
        for (int i = 0; i < want.length; i++) {
            is("9: depth in " + (5 + i), x.depth(0, 5 + i), want[i]);
        }
        is("9: an evened ring of 0 counts", x.depth(0, 20), 1);
        is("9: and is a value", x.at(0, 20), 0);
        fails("9: year before", INDEX, () -> x.depth(0, 4));
        fails("9: year behind", INDEX, () -> x.depth(0, 28));
        fails("9: master 1", INDEX, () -> x.depth(1, 5));
        fails("9: master -1", INDEX, () -> x.depth(-1, 5));
    }

    private static void leftOut() {
        RingMasters x = new RingMasters();
        addPlaced(x, 20, 1, 2, 3);
        addPlaced(x, 20, 2, 2, 2);
        addPlaced(x, 20, 4, 1, 1);
        addPlaced(x, 20, 1, 1, 4);
        addPlaced(x, 300, 1, 1, 4);
        add(x, 1, 1, 1);
        x.master(63);
        // The others give 100, 200, 50 -> 100; 100, 50, 50 -> 50; 100, 50, 200 -> 100.
        is("10: sum", x.leftOut(0, 0, 0), 50 + 50 + 50);
        is("10: years", x.leftOut(0, 0, 1), 3);
        is("10: alone in its years, sum", x.leftOut(0, 4, 0), 0);
        is("10: alone in its years", x.leftOut(0, 4, 1), 0);
        fails("10: floating then", INDEX, () -> x.leftOut(0, 5, 0));
        x.place(5, 20);
        fails("10: placed since", INDEX, () -> x.leftOut(0, 5, 0));
        fails("10: series 6", INDEX, () -> x.leftOut(0, 6, 0));
        fails("10: series -1", INDEX, () -> x.leftOut(0, -1, 0));
        fails("10: series 10", INDEX, () -> x.leftOut(0, 10, 0));
        fails("10: what 2", INDEX, () -> x.leftOut(0, 0, 2));
        fails("10: what -1", INDEX, () -> x.leftOut(0, 0, -1));
        fails("10: master 1", INDEX, () -> x.leftOut(1, 0, 0));
        fails("10: master -1", INDEX, () -> x.leftOut(-1, 0, 0));
        x.master(1);
        is("10: no others", x.leftOut(1, 0, 1), 0);
        fails("10: not of the set", INDEX, () -> x.leftOut(1, 1, 1));
    }

    private static void distance() {
        RingMasters x = new RingMasters();
        addPlaced(x, 100, 1, 2, 3);
        addPlaced(x, 105, 3, 2, 1);
        x.master(3);
        is("11: on itself", x.distance(0, 0, 100, 0), 0);
        is("11: years on itself", x.distance(0, 0, 100, 1), 3);
        is("11: one year early", x.distance(0, 0, 99, 0), 50 + 50);
        is("11: its years", x.distance(0, 0, 99, 1), 2);
        is("11: over the gap", x.distance(0, 0, 102, 1), 1);
        is("11: over the gap, sum", x.distance(0, 0, 102, 0), 100);
        is("11: both sides of the gap", x.distance(0, 0, 103, 1), 1);
        is("11: in the gap alone", x.distance(1, 0, 110, 1), 0);
        is("11: far away", x.distance(1, 0, -500, 0), 0);
        for (int year : new int[] {MIN, MIN + 100, -1, MAX, MAX - 1, MAX - 2}) {
            is("11: year " + year, x.distance(0, 0, year, 1), 0);
            is("11: sum in year " + year, x.distance(0, 0, year, 0), 0);
        }
        fails("11: series 2", INDEX, () -> x.distance(2, 0, 100, 0));
        fails("11: series -1", INDEX, () -> x.distance(-1, 0, 100, 0));
        fails("11: master 1", INDEX, () -> x.distance(0, 1, 100, 0));
        fails("11: master -1", INDEX, () -> x.distance(0, -1, 100, 0));
        fails("11: what 2", INDEX, () -> x.distance(0, 0, 100, 2));
        fails("11: what -1", INDEX, () -> x.distance(0, 0, 100, -1));
        x.place(0, 1);
        x.master(1);
        is("11: a year below 0", x.distance(0, 1, -1, 1), 1);
    }

    private static void date() {
        RingMasters x = new RingMasters();
        addPlaced(x, 0, 1, 5, 2, 4, 3, 6, 1, 2);
        add(x, 5, 2, 4, 3);
        x.master(1);
        is("12: on itself", x.date(0, 0, 8), 0);
        is("12: none with so many years", x.date(0, 0, 9), -1000);
        is("12: none for the short one", x.date(1, 0, 5), -1000);
        int best = x.date(1, 0, 4);
        for (int year = 0; year <= 4; year++) {
            int sum = x.distance(1, 0, year, 0);
            is("12: no year is nearer than the date", sum >= x.distance(1, 0, best, 0), true);
        }
        fails("12: least 1", ARGUMENT, () -> x.date(0, 0, 1));
        fails("12: least 31", ARGUMENT, () -> x.date(0, 0, 31));
        fails("12: least MIN", ARGUMENT, () -> x.date(0, 0, MIN));
        fails("12: series 2", INDEX, () -> x.date(2, 0, 1));
        fails("12: series -1", INDEX, () -> x.date(-1, 0, 2));
        fails("12: master 1", INDEX, () -> x.date(0, 1, 31));
        fails("12: master -1", INDEX, () -> x.date(0, -1, 2));
    }

    private static void dateOfEquals() {
        RingMasters x = new RingMasters();
        addPlaced(x, 0, 5, 5, 5, 5, 5, 5);
        add(x, 7, 7, 7);
        x.master(1);
        is("12: of equal ones the earliest", x.date(1, 0, 2), 0);
        RingMasters y = new RingMasters();
        addPlaced(y, 0, 9, 3, 6);
        add(y, 2, 10, 9, 3);
        y.master(1);
        int early = y.date(1, 0, 2);
        is("12: a date below 0", early, -2);
        is("12: its years", y.distance(1, 0, early, 1), 2);
        // More years lie with it only where the sum divided by the years is equal.
        RingMasters z = new RingMasters();
        addPlaced(z, 10, 3, 3, 3);
        addPlaced(z, 20, 3, 3, 3, 3);
        add(z, 3, 3, 3, 3);
        z.master(3);
        is("12: of equal quotients the one of more years", z.date(2, 0, 2), 20);
        is("12: of three years and four", z.date(2, 0, 3), 20);
    }

    private static void agrees() {
        RingMasters x = new RingMasters();
        addPlaced(x, 50, 1, 5, 2, 4, 3, 6);
        addPlaced(x, 50, 1, 5, 2, 4, 3, 6);
        addPlaced(x, 60, 1, 5, 2, 4, 3, 6);
        addPlaced(x, 60, 1, 5, 2);
        x.master(1);
        x.master(2);
        x.master(4);
        x.master(8);
        is("13: one master", x.agrees(0, 1, 5), true);
        is("13: two with one date", x.agrees(0, 3, 5), true);
        is("13: two with two dates", x.agrees(0, 5, 5), false);
        is("13: three", x.agrees(0, 7, 5), false);
        is("13: one gives none", x.agrees(0, 8, 5), false);
        is("13: the last one gives none", x.agrees(0, 9, 5), false);
        is("13: empty", x.agrees(0, 0, 5), false);
        x.master(1);
        is("13: the first one gives none", x.agrees(0, 24, 5), false);
        is("13: the first and the last", x.agrees(0, 17, 5), true);
        fails("13: set 32", INDEX, () -> x.agrees(0, 32, 1));
        fails("13: set 33", INDEX, () -> x.agrees(0, 33, 5));
        fails("13: set -1", INDEX, () -> x.agrees(0, -1, 5));
        fails("13: set MIN", INDEX, () -> x.agrees(0, MIN, 5));
        fails("13: set MAX", INDEX, () -> x.agrees(0, MAX, 5));
        fails("13: series 4", INDEX, () -> x.agrees(4, 1, 5));
        fails("13: series -1", INDEX, () -> x.agrees(-1, 1, 5));
        fails("13: least 1", ARGUMENT, () -> x.agrees(0, 1, 1));
        fails("13: least 31", ARGUMENT, () -> x.agrees(0, 1, 31));
        fails("13: least 31 of an empty set", ARGUMENT, () -> x.agrees(0, 0, 31));
    }

    private static void source() {
        RingMasters x = new RingMasters();
        addPlaced(x, 50, 1, 6, 2, 4);
        addPlaced(x, 50, 1, 5, 2, 4);
        addPlaced(x, 60, 1, 5, 2);
        add(x, 1, 5, 2, 4);
        is("14: no masters", x.source(3, 2, 0), -1);
        x.master(1);
        x.master(4);
        x.master(2);
        is("14: the nearest", x.source(3, 4, 0), 2);
        is("14: the next one", x.source(3, 4, 1), 0);
        is("14: one has too few years", x.source(3, 4, 2), -1);
        is("14: k MAX", x.source(3, 4, MAX), -1);
        is("14: all three with less years", x.source(3, 3, 2) != -1, true);
        is("14: none", x.source(3, 30, 0), -1);
        fails("14: k -1", INDEX, () -> x.source(3, 1, -1));
        fails("14: k MIN", INDEX, () -> x.source(3, 4, MIN));
        fails("14: series 4", INDEX, () -> x.source(4, 31, 0));
        fails("14: series -1", INDEX, () -> x.source(-1, 2, 0));
        fails("14: least 1", ARGUMENT, () -> x.source(3, 1, 0));
        fails("14: least 31", ARGUMENT, () -> x.source(3, 31, 9));
    }

    private static void sourceOfEquals() {
        RingMasters x = new RingMasters();
        addPlaced(x, 50, 7, 7, 7);
        addPlaced(x, 90, 7, 7, 7, 7);
        x.master(1);
        x.master(2);
        x.master(1);
        x.master(2);
        int[] want = {1, 3, 0, 2, -1};
        for (int k = 0; k < want.length; k++) {
            is("14: equal quotients, then years, then numbers: " + k, x.source(1, 2, k), want[k]);
        }
        RingMasters y = new RingMasters();
        addPlaced(y, 50, 101, 100, 100);
        addPlaced(y, 50, 100, 100, 100);
        y.master(1);
        y.master(2);
        is("14: two of three years is more than none", y.source(1, 3, 0), 1);
        is("14: and comes behind it", y.source(1, 3, 1), 0);
    }

    private static void sapwood() {
        RingMasters x = new RingMasters();
        is("15: at first", x.sapwood(0, 10000), 0);
        is("15: then", x.sapwood(0, 0), 10000);
        is("15: 60", x.sapwood(60, 5), 0);
        is("15: 60 again", x.sapwood(60, 5), 5);
        fails("15: 61 rings", ARGUMENT, () -> x.sapwood(61, 5));
        fails("15: -1 rings", ARGUMENT, () -> x.sapwood(-1, 5));
        fails("15: MAX rings", ARGUMENT, () -> x.sapwood(MAX, 5));
        fails("15: weight -1", ARGUMENT, () -> x.sapwood(60, -1));
        fails("15: weight 10001", ARGUMENT, () -> x.sapwood(60, 10001));
        is("15: nothing changed", x.sapwood(60, 7), 5);
    }

    private static void felling() {
        RingMasters x = new RingMasters();
        add(x, same(6, 5));
        fails("16: floats", STATE, () -> x.felling(0, 7, 0, 0));
        fails("16: series 1", INDEX, () -> x.felling(1, 0, 1, 1));
        fails("16: series -1", INDEX, () -> x.felling(-1, 0, 1, 1));
        x.place(0, 100);
        is("16: no weights", x.felling(0, 0, 1, 1), -1);
        x.sapwood(3, 10);
        x.sapwood(4, 20);
        x.sapwood(6, 20);
        x.sapwood(7, 10);
        is("16: sap 0, the half", x.felling(0, 0, 1, 2), 108109);
        is("16: sap 0, a third", x.felling(0, 0, 1, 3), 109109);
        is("16: sap 0, a little more than a third", x.felling(0, 0, 334, 1000), 108109);
        is("16: sap 0, two thirds", x.felling(0, 0, 2, 3), 109111);
        is("16: sap 0, all", x.felling(0, 0, 1000, 1000), 108112);
        is("16: sap 4, the half", x.felling(0, 4, 1, 2), 107108);
        is("16: sap 5", x.felling(0, 5, 1, 2), 106106);
        is("16: all rings", x.felling(0, 6, 1, 1), 105106);
        fails("16: sap 7", ARGUMENT, () -> x.felling(0, 7, 1, 1));
        fails("16: sap -1", ARGUMENT, () -> x.felling(0, -1, 1, 1));
        fails("16: above 0", ARGUMENT, () -> x.felling(0, 0, 0, 1));
        fails("16: above over below", ARGUMENT, () -> x.felling(0, 0, 3, 2));
        fails("16: below 1001", ARGUMENT, () -> x.felling(0, 0, 1, 1001));
        fails("16: MIN", ARGUMENT, () -> x.felling(0, 0, MIN, MIN));
        x.place(0, -1);
        fails("16: floats again", STATE, () -> x.felling(0, 0, 1, 1));
    }

    private static void fellingEdges() {
        RingMasters x = new RingMasters();
        addPlaced(x, 0, 5, 5, 5);
        x.sapwood(2, 9);
        is("16: weights below sap do not count", x.felling(0, 3, 1, 1), -1);
        is("16: sap 2", x.felling(0, 2, 1, 1), 1000 * 2 + 2);
        x.sapwood(3, 1);
        is("16: the heartwood ends before year 0", x.felling(0, 3, 1, 1), 1000 * 2 + 2);
        RingMasters y = new RingMasters();
        addPlaced(y, 500, same(30, 5));
        for (int rings = 0; rings <= 60; rings++) {
            y.sapwood(rings, 10000);
        }
        is("16: greatest weights", y.felling(0, 0, 1000, 1000), 1000 * 529 + 589);
        is("16: 999 of 1000 needs all", y.felling(0, 0, 999, 1000), 1000 * 529 + 589);
        is("16: 60 of 61", y.felling(0, 0, 60, 61), 1000 * 529 + 588);
        is("16: 1 of 1000", y.felling(0, 0, 1, 1000), 1000 * 529 + 529);
        is("16: sap 30", y.felling(0, 30, 1, 1), 1000 * 529 + 559);
    }

    private static void sameTree() {
        RingMasters x = new RingMasters();
        addPlaced(x, 100, same(6, 5));
        addPlaced(x, 101, same(6, 9));
        is("17: five years", x.sameTree(0, 1), true);
        is("17: with itself", x.sameTree(0, 0), true);
        x.place(1, 102);
        is("17: four years", x.sameTree(0, 1), false);
        x.place(1, 99);
        is("17: five years on the other side", x.sameTree(0, 1), true);
        x.place(1, 300);
        is("17: none", x.sameTree(0, 1), false);
        x.place(1, -1);
        is("17: one floats", x.sameTree(0, 1), false);
        is("17: the other one floats", x.sameTree(1, 0), false);
        is("17: with itself, floating", x.sameTree(1, 1), false);
        x.place(0, 0);
        is("17: floating is no year before 0", x.sameTree(0, 1), false);
        is("17: nor the other way", x.sameTree(1, 0), false);
        fails("17: b 2", INDEX, () -> x.sameTree(0, 2));
        fails("17: a 2", INDEX, () -> x.sameTree(2, 1));
        fails("17: a -1", INDEX, () -> x.sameTree(-1, 0));
        fails("17: b -1", INDEX, () -> x.sameTree(1, -1));
        RingMasters y = new RingMasters();
        addPlaced(y, 10, same(6, 20));
        addPlaced(y, 10, 23, 17, 23, 17, 23, 17);
        addPlaced(y, 10, 230, 169, 231, 170, 230, 170);
        addPlaced(y, 10, 9, 9, 9, 9);
        is("17: 15 times the years", y.sameTree(0, 1), true);
        is("17: a little more", y.sameTree(0, 2), false);
        is("17: both ways", y.sameTree(2, 0), false);
        is("17: four rings have no five years", y.sameTree(3, 3), false);
    }

    private static void count() {
        RingMasters x = new RingMasters();
        addPlaced(x, 4, 5, 5, 5);
        add(x, 5, 5, 5);
        add(x, 5, 5, 5);
        x.ring(1);
        x.ring(1);
        x.ring(1);
        x.ring(1);
        x.master(7);
        is("18: pad", x.count(0), 4);
        is("18: series", x.count(1), 3);
        is("18: masters", x.count(2), 1);
        is("18: floating", x.count(3), 2);
        x.place(0, -1);
        is("18: one floats again", x.count(3), 3);
        fails("18: what 4", INDEX, () -> x.count(4));
        fails("18: what -1", INDEX, () -> x.count(-1));
        fails("18: what MIN", INDEX, () -> x.count(MIN));
    }
}
