/** SHARES, and promises 22 to 24: a test of its own for each sentence that names a bound. */
public final class SharesSentencesTest {
    private static final Due DUE = new Due("SharesSentencesTest");
    private static final int MIN = Integer.MIN_VALUE;
    private static final int MAX = Integer.MAX_VALUE;

    public static void main(String[] args) {
        roundedDown();
        greatestRemainders();
        lowestNumber();
        largeProducts();
        allPartsAre0();
        baseCost();
        restOfTheCost();
        fewerFlatsThanBefore();
        greatest();
        greatestOrder();
        billIf();
        bestShare();
        DUE.end();
    }

    private static void are(HeatBills x, int what, int... want) {
        for (int flat = 0; flat < want.length; flat++) {
            DUE.is("flat(" + flat + ", " + what + ")", x.flat(flat, what), want[flat]);
        }
    }

    /** All of the cost is shared by areas. */
    private static HeatBills byAreas(int cost, int... areas) {
        HeatBills x = Houses.withFlats(areas);
        x.set(1, 100);
        x.set(0, cost);
        return x;
    }

    /** All of the cost is shared by units: one device of the factor 1 in each flat. */
    private static HeatBills byUnits(int cost, int... units) {
        HeatBills x = new HeatBills();
        for (int flat = 0; flat < units.length; flat++) {
            x.addFlat(200 - flat);
            x.addDevice(flat, 1);
            x.read(flat, units[flat]);
        }
        x.set(1, 0);
        x.set(0, cost);
        return x;
    }

    private static void roundedDown() {
        DUE.sentence("each gets the amount times its part, divided by all parts together, rounded down");
        are(byAreas(0, 1, 200), 5, 0, 0);
        are(byAreas(201, 1, 200), 5, 1, 200);
        are(byAreas(99999, 1), 5, 99999);
        are(byAreas(99999, 200), 5, 99999);
        are(byUnits(10, 0, 1, 9), 5, 0, 1, 9);
        are(byUnits(1, 9999, 0), 5, 1, 0);
        are(byUnits(99999, 0, 9999), 5, 0, 99999);
    }

    private static void greatestRemainders() {
        DUE.sentence("what is left is given one coin each to those with the greatest remainders of these divisions");
        // remainders of 5: 4, 4, 2; two coins are left
        are(byAreas(4, 1, 1, 3), 5, 1, 1, 2);
        // remainders of 7: 1, 2, 4; one coin is left, for the last one
        are(byAreas(8, 1, 2, 4), 5, 1, 2, 5);
        // remainders of 7: 2, 4, 1; one coin is left, for the one between
        are(byAreas(9, 1, 2, 4), 5, 1, 3, 5);
        // a part of 0 has a remainder of 0
        are(byUnits(10, 0, 1, 2), 5, 0, 3, 7);
        are(byUnits(2, 1, 0, 1, 0, 1), 5, 1, 0, 1, 0, 0);
        // seven of eight get a coin, and nobody gets a second one
        are(byAreas(7, 5, 5, 5, 5, 5, 5, 5, 5), 5, 1, 1, 1, 1, 1, 1, 1, 0);
        are(byAreas(7, 4, 5, 5, 5, 5, 5, 5, 5), 5, 0, 1, 1, 1, 1, 1, 1, 1);
        // remainders of 100: 99 and 1
        are(byAreas(3, 33, 67), 5, 1, 2);
    }

    private static void lowestNumber() {
        DUE.sentence("of several to the lowest number");
        are(byAreas(1, 7, 7, 7, 7, 7, 7, 7, 7), 5, 1, 0, 0, 0, 0, 0, 0, 0);
        are(byAreas(9, 7, 7, 7, 7, 7, 7, 7, 7), 5, 2, 1, 1, 1, 1, 1, 1, 1);
        are(byAreas(8, 7, 7, 7, 7, 7, 7, 7, 7), 5, 1, 1, 1, 1, 1, 1, 1, 1);
        // remainders of 7: 1, 3, 3; the first of the two, though not the first of all
        are(byAreas(3, 5, 1, 1), 5, 2, 1, 0);
        are(byUnits(1, 0, 3, 3), 5, 0, 1, 0);
    }

    private static void largeProducts() {
        DUE.sentence("each gets the amount times its part");
        HeatBills x = Houses.withFlats(1, 1);
        for (int device = 0; device < 20; device++) {
            x.addDevice(device % 2, 20);
            x.read(device, 9999);
        }
        x.set(0, 99999);
        x.set(1, 0);
        // 99999 * 1999800 is far beyond an int
        are(x, 5, 50000, 49999);
        x.read(0, 9998);
        // 99999 * 1999780 / 3999580 = 49999.25, the other one 49999.75
        are(x, 5, 49999, 50000);
        x.read(0, 9999);
        x.close();
        DUE.is("correct(0, 1, 0)", x.correct(0, 1, 0), 2);
        // 99999 * 1999800 / 3799620 = 52630.7, the other one 47368.3
        DUE.is("bill(0, 0, f, f)", x.bill(0, 0, false, false), 52631);
        DUE.is("bill(0, 1, f, f)", x.bill(0, 1, false, false), 47368);
    }

    private static void allPartsAre0() {
        DUE.sentence("If all parts are 0, it is shared by areas.");
        HeatBills x = Houses.withFlats(1, 3);
        x.set(1, 0);
        x.set(0, 101);
        // without a device; the remainders of 4 are 1 and 3
        are(x, 4, 25, 76);
        x.addDevice(0, 1);
        x.addDevice(1, 20);
        are(x, 4, 25, 76);
        x.read(0, 1);
        are(x, 4, 101, 0);
        x.mark(0, true);
        // a sound one that isn't used: the estimate is 0
        are(x, 4, 25, 76);
        x.mark(1, true);
        are(x, 4, 25, 76);
        x.mark(0, false);
        // 1, and 20 * 1 / 1
        are(x, 4, 5, 96);
        x.close();
        x.correct(0, 0, 0);
        DUE.is("bill(0, 0, f, f), one part is left", x.bill(0, 0, false, false), 0);
        x.correct(0, 1, 0);
        DUE.is("bill(0, 0, f, f), all are corrected to 0", x.bill(0, 0, false, false), 25);
        DUE.is("bill(0, 1, f, f)", x.bill(0, 1, false, false), 76);
    }

    private static void baseCost() {
        DUE.sentence("The base cost is cost * base share / 100, rounded down; it is shared by the areas of all flats.");
        int[][] costShareBase = {{0, 100, 0}, {1, 0, 0}, {1, 99, 0}, {1, 100, 1}, {99, 1, 0}, {100, 1, 1},
            {199, 1, 1}, {101, 99, 99}, {99999, 0, 0}, {99999, 1, 999}, {99999, 99, 98999}, {99999, 100, 99999}};
        for (int[] row : costShareBase) {
            HeatBills x = Houses.withFlats(3);
            x.set(0, row[0]);
            x.set(1, row[1]);
            DUE.is("flat(0, 3) of " + row[0] + " by " + row[1], x.flat(0, 3), row[2]);
            DUE.is("flat(0, 4) of " + row[0] + " by " + row[1], x.flat(0, 4), row[0] - row[2]);
            DUE.is("flat(0, 5) of " + row[0] + " by " + row[1], x.flat(0, 5), row[0]);
        }
        HeatBills y = byUnits(100, 0, 7);
        y.set(1, 1);
        // the one coin of base cost goes by areas of 200 and 199
        are(y, 3, 1, 0);
    }

    private static void restOfTheCost() {
        DUE.sentence("The rest of the cost is shared by the units of all flats. The bill of a flat is both together.");
        HeatBills x = byUnits(1, 0, 7);
        x.set(1, 99);
        are(x, 3, 0, 0);
        are(x, 4, 0, 1);
        are(x, 5, 0, 1);
        x.set(1, 100);
        are(x, 3, 1, 0);
        are(x, 4, 0, 0);
        are(x, 5, 1, 0);
        x.set(0, 101);
        x.set(1, 50);
        are(x, 3, 25, 25);
        are(x, 4, 0, 51);
        are(x, 5, 25, 76);
        DUE.is("count(9), to the coin", x.count(9), 101);
    }

    /** What was worked out for a flat that is gone is nobody's. */
    private static void fewerFlatsThanBefore() {
        DUE.sentence("9 for all bills of the open year");
        HeatBills x = Houses.withFlats(10);
        x.set(0, 100);
        x.addDevice(0, 1);
        x.addFlat(10);
        DUE.is("count(9)", x.count(9), 100);
        x.undo();
        DUE.is("count(9), a flat less", x.count(9), 100);
        DUE.is("greatest(1), a flat less", x.greatest(1), -5);
        x.undo();
        x.undo();
        DUE.is("undo() of the flat too", x.undo(), 0);
        x.set(0, 100);
        DUE.is("count(9), no flat", x.count(9), 0);
    }

    private static void greatest() {
        DUE.sentence("Returns the flat; BAD_VALUE if rank is negative; NONE if there are not so many.");
        HeatBills x = new HeatBills();
        DUE.is("greatest(0), no flats", x.greatest(0), -5);
        DUE.is("greatest(-1), no flats: bad before none", x.greatest(-1), -2);
        x.addFlat(10);
        DUE.is("greatest(0)", x.greatest(0), 0);
        DUE.is("greatest(1)", x.greatest(1), -5);
        for (int flat = 1; flat < 8; flat++) {
            x.addFlat(10);
        }
        DUE.is("greatest(7)", x.greatest(7), 7);
        DUE.is("greatest(8)", x.greatest(8), -5);
        DUE.is("greatest(MAX)", x.greatest(MAX), -5);
        DUE.is("greatest(-1)", x.greatest(-1), -2);
        DUE.is("greatest(MIN)", x.greatest(MIN), -2);
    }

    private static void greatestOrder() {
        DUE.sentence("Tells the flats by their cost by units in the open year:"
                + " the greatest first, of several the lowest number.");
        ranks(byUnits(100, 1, 2, 3, 4, 5, 6, 7, 8), 7, 6, 5, 4, 3, 2, 1, 0);
        ranks(byUnits(80, 8, 7, 7, 8, 7, 9, 7, 9), 5, 7, 0, 3, 1, 2, 4, 6);
        ranks(byUnits(0, 1, 2, 3), 0, 1, 2);
        // a coin each, though the units are 3 and 4
        ranks(byUnits(2, 3, 4), 0, 1);
        ranks(byUnits(3, 3, 4), 1, 0);
        HeatBills x = byUnits(1000, 1, 2, 3);
        x.set(1, 100);
        // the base cost is much, the cost by units nothing
        ranks(x, 0, 1, 2);
        x.set(1, 10);
        ranks(x, 2, 1, 0);
        x.close();
        ranks(x, 0, 1, 2);
    }

    private static void ranks(HeatBills x, int... want) {
        for (int rank = 0; rank < want.length; rank++) {
            DUE.is("greatest(" + rank + ")", x.greatest(rank), want[rank]);
        }
        DUE.is("greatest(" + want.length + ")", x.greatest(want.length), -5);
    }

    private static void billIf() {
        DUE.sentence("Tells what the bill of a flat would be with another base share.");
        HeatBills x = byUnits(101, 0, 7);
        int[] noFlats = {-1, 2, 8, MIN, MAX};
        for (int flat : noFlats) {
            DUE.is("billIf(" + flat + ", 0)", x.billIf(flat, 0), -1);
            DUE.is("billIf(" + flat + ", -1), unknown before bad", x.billIf(flat, -1), -1);
        }
        int[] outside = {-1, 101, MIN, MAX};
        for (int share : outside) {
            DUE.is("billIf(0, " + share + ")", x.billIf(0, share), -2);
        }
        DUE.is("billIf(0, 0)", x.billIf(0, 0), 0);
        DUE.is("billIf(1, 0)", x.billIf(1, 0), 101);
        DUE.is("billIf(0, 1)", x.billIf(0, 1), 1);
        DUE.is("billIf(1, 1)", x.billIf(1, 1), 100);
        DUE.is("billIf(0, 100)", x.billIf(0, 100), 51);
        DUE.is("billIf(1, 100)", x.billIf(1, 100), 50);
        DUE.is("count(5), as it was", x.count(5), 0);
        x.move(0, 1);
        x.between(0, 0);
        DUE.is("billIf(0, 100), of both tenants", x.billIf(0, 100), 51);
        DUE.is("flat(0, 5), as it was", x.flat(0, 5), 0);
    }

    private static void bestShare() {
        DUE.sentence("Tells the least base share with which the bill of a flat is the least that it can be.");
        HeatBills x = byUnits(101, 0, 7);
        int[] noFlats = {-1, 2, 8, MIN, MAX};
        for (int flat : noFlats) {
            DUE.is("bestShare(" + flat + ")", x.bestShare(flat), -1);
        }
        DUE.is("bestShare(0), nothing by units", x.bestShare(0), 0);
        DUE.is("bestShare(1), all by units", x.bestShare(1), 100);
        DUE.is("count(5), as it was", x.count(5), 0);
        x.set(0, 0);
        DUE.is("bestShare(1), no cost", x.bestShare(1), 0);
        x.set(0, 1);
        DUE.is("bestShare(1), the coin is base at 100 alone", x.bestShare(1), 100);
        x.set(0, 2);
        // from 50 to 99, one coin is base, and goes to flat 0; at 100, both are shared
        DUE.is("bestShare(1), the least of several", x.bestShare(1), 50);
        HeatBills even = Houses.withFlats(7, 7);
        even.set(0, 100);
        // flat 0 pays 50, 51, 50, 51 and so on, flat 1 what is left of 100
        DUE.is("bestShare(0), 0 and others", even.bestShare(0), 0);
        DUE.is("bestShare(1), 1 and others", even.bestShare(1), 1);
        HeatBills one = Houses.withFlats(200);
        one.set(0, 99999);
        DUE.is("bestShare(0) of a single flat", one.bestShare(0), 0);
        DUE.is("bestShare(0), no flat", new HeatBills().bestShare(0), -1);
    }
}
