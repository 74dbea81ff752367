/** CLOSING A YEAR, and promises 10, 11, 20 and 21: a test of its own for each sentence that names a bound. */
public final class YearsSentencesTest {
    private static final Due DUE = new Due("YearsSentencesTest");
    private static final int MIN = Integer.MIN_VALUE;
    private static final int MAX = Integer.MAX_VALUE;

    public static void main(String[] args) {
        kept();
        newYear();
        atMostFour();
        correctedWithWhatWasKept();
        chargedAnew();
        greatestCharges();
        close();
        correct();
        tenantsWithOtherBills();
        correctBounds();
        bill();
        units();
        DUE.end();
    }

    /** Two flats with a device each, all by units, one of them moves: bills of 250, 375 and 375. */
    private static HeatBills closed() {
        HeatBills x = Houses.withFlats(10, 30);
        x.addDevice(0, 1);
        x.addDevice(1, 1);
        x.set(0, 1000);
        x.set(1, 0);
        x.read(0, 10);
        x.read(1, 30);
        x.move(1, 6);
        x.between(1, 500);
        x.close();
        return x;
    }

    private static void bills(HeatBills x, int ofFlat0, int first, int second) {
        DUE.is("bill(0, 0, f, f)", x.bill(0, 0, false, false), ofFlat0);
        DUE.is("bill(0, 1, f, f)", x.bill(0, 1, false, false), first);
        DUE.is("bill(0, 1, t, f)", x.bill(0, 1, true, false), second);
    }

    private static void anew(HeatBills x, int ofFlat0, int first, int second) {
        DUE.is("bill(0, 0, f, t)", x.bill(0, 0, false, true), 1000000 + ofFlat0);
        DUE.is("bill(0, 1, f, t)", x.bill(0, 1, false, true), 1000000 + first);
        DUE.is("bill(0, 1, t, t)", x.bill(0, 1, true, true), 1000000 + second);
    }

    private static void kept() {
        DUE.sentence("When a year is closed, its bills are kept (of the first and the second tenant of each flat),"
                + " and the units of its devices");
        HeatBills x = closed();
        bills(x, 250, 375, 375);
        anew(x, 0, 0, 0);
        DUE.is("units(0, 0)", x.units(0, 0), 10);
        DUE.is("units(0, 1)", x.units(0, 1), 30);
        x.read(0, 9999);
        x.set(0, 99999);
        x.set(1, 100);
        x.mark(1, true);
        x.move(0, 3);
        bills(x, 250, 375, 375);
        DUE.is("units(0, 0), later readings", x.units(0, 0), 10);
        DUE.is("units(0, 1), faulty later", x.units(0, 1), 30);
        DUE.is("bill(0, 0, t, f), a later move", x.bill(0, 0, true, false), -1);
        x.close();
        bills(x, 250, 375, 375);
        DUE.is("bill(1, 1, t, f), an earlier move", x.bill(1, 1, true, false), -1);
        DUE.is("bill(1, 0, f, f): 25000 * 3 / 12", x.bill(1, 0, false, false), 6250);
        DUE.is("bill(1, 0, t, f)", x.bill(1, 0, true, false), 18750);
        DUE.is("count(10)", x.count(10), 100999);
    }

    private static void newYear() {
        DUE.sentence("the readings at its beginning are those at the end of the year that is closed,"
                + " for faulty devices too, and those at its end are the same; the cost is 0, nobody moves;"
                + " the base share, the manner, and whether devices are sound or faulty stay.");
        HeatBills x = Houses.withFlats(10);
        x.addDevice(0, 20);
        x.addDevice(0, 20);
        x.read(0, 9999);
        x.read(1, 9998);
        x.mark(1, true);
        x.set(0, 99999);
        x.set(1, 100);
        x.set(2, 1);
        x.move(0, 11);
        x.between(0, 1000);
        x.close();
        int[][] readings = {{9999, 9999, 0}, {9998, 9998, 1}};
        for (int device = 0; device < 2; device++) {
            for (int what = 2; what < 5; what++) {
                DUE.is("device(" + device + ", " + what + ")", x.device(device, what), readings[device][what - 2]);
            }
        }
        DUE.is("device(0, 5)", x.device(0, 5), 0);
        DUE.is("count(4), the cost", x.count(4), 0);
        DUE.is("count(5), the base share", x.count(5), 100);
        DUE.is("count(6), the manner", x.count(6), 1);
        DUE.is("count(3), faulty ones", x.count(3), 1);
        DUE.is("count(12), moves", x.count(12), 0);
        DUE.is("flat(0, 6)", x.flat(0, 6), -5);
        DUE.is("flat(0, 7)", x.flat(0, 7), -5);
        DUE.is("flat(0, 5)", x.flat(0, 5), 0);
        DUE.is("count(9)", x.count(9), 0);
    }

    private static void atMostFour() {
        DUE.sentence("At most 4 years can be closed.");
        HeatBills x = Houses.withFlats(10);
        for (int year = 0; year < 4; year++) {
            x.set(0, 10 + year);
            DUE.is("close()", x.close(), year);
        }
        x.set(0, 50);
        DUE.is("close(), the fifth", x.close(), -3);
        DUE.is("count(4), still open", x.count(4), 50);
        DUE.is("count(10)", x.count(10), 46);
        DUE.is("bill(3, 0, f, f)", x.bill(3, 0, false, false), 13);
        DUE.is("undo()", x.undo(), 3);
        DUE.is("undo() of the fourth close", x.undo(), 2);
        DUE.is("close(), room again", x.close(), 3);
        DUE.is("close()", x.close(), -3);
    }

    private static void correctedWithWhatWasKept() {
        DUE.sentence("The whole year is shared anew then, with the cost, base share, areas, moves and units"
                + " that were kept, and the bills that were kept become the new ones.");
        HeatBills x = closed();
        x.set(0, 5);
        x.set(1, 100);
        x.addDevice(0, 20);
        x.read(2, 9999);
        x.move(0, 1);
        x.mark(0, true);
        DUE.is("correct(0, 0, 0)", x.correct(0, 0, 0), 3);
        bills(x, 0, 500, 500);
        DUE.is("correct(0, 1, 0), by areas then", x.correct(0, 1, 0), 3);
        bills(x, 250, 375, 375);
        DUE.is("correct(0, 1, 1)", x.correct(0, 1, 1), 3);
        bills(x, 0, 500, 500);
        DUE.is("correct(0, 0, 2): 666.7 and 333.3", x.correct(0, 0, 2), 3);
        bills(x, 667, 166, 167);
        DUE.is("flat(0, 3) of the open year", x.flat(0, 3), 1);
        DUE.is("count(4)", x.count(4), 5);
        DUE.is("count(10), to the coin", x.count(10), 1000);
    }

    private static void chargedAnew() {
        DUE.sentence("What a tenant has to pay more or less by that is added to what is charged anew.");
        HeatBills x = closed();
        anew(x, 0, 0, 0);
        x.correct(0, 0, 0);
        anew(x, -250, 125, 125);
        x.correct(0, 0, 30);
        bills(x, 500, 250, 250);
        anew(x, 250, -125, -125);
        x.correct(0, 0, 10);
        anew(x, 0, 0, 0);
        DUE.is("count(11)", x.count(11), 3);
        DUE.is("undo()", x.undo(), 3);
        anew(x, 250, -125, -125);
        x.close();
        anew(x, 250, -125, -125);
        DUE.is("bill(1, 0, f, t), another year", x.bill(1, 0, false, true), 1000000);
    }

    private static void greatestCharges() {
        DUE.sentence("whether what was charged anew is told, plus 1000000, otherwise the bill");
        HeatBills x = Houses.withFlats(200, 200);
        x.addDevice(0, 1);
        x.addDevice(1, 1);
        x.set(0, 99999);
        x.set(1, 0);
        x.read(0, 1);
        x.close();
        DUE.is("bill(0, 0, f, f)", x.bill(0, 0, false, false), 99999);
        x.correct(0, 1, 199980);
        x.correct(0, 0, 0);
        DUE.is("bill(0, 0, f, f), nothing", x.bill(0, 0, false, false), 0);
        DUE.is("bill(0, 0, f, t), the least", x.bill(0, 0, false, true), 900001);
        DUE.is("bill(0, 1, f, f), all", x.bill(0, 1, false, false), 99999);
        DUE.is("bill(0, 1, f, t), the most", x.bill(0, 1, false, true), 1099999);
    }

    private static void close() {
        DUE.sentence("Returns its number; FULL if 4 are closed; NOT_POSSIBLE if there are no flats.");
        HeatBills x = new HeatBills();
        DUE.is("close(), no flats", x.close(), -4);
        x.set(0, 7);
        DUE.is("close(), a cost but no flats", x.close(), -4);
        DUE.is("count(4)", x.count(4), 7);
        x.addFlat(1);
        DUE.is("close(), a flat without devices", x.close(), 0);
        DUE.is("bill(0, 0, f, f)", x.bill(0, 0, false, false), 7);
        x.undo();
        x.undo();
        DUE.is("close(), no flats again", x.close(), -4);
        HeatBills full = Houses.withFlats(1, 2, 3, 4, 5, 6, 7, 8);
        for (int year = 0; year < 4; year++) {
            DUE.is("close(), eight flats", full.close(), year);
        }
        DUE.is("close(), four are closed", full.close(), -3);
    }

    private static void correct() {
        DUE.sentence("Returns how many tenants have other bills then; UNKNOWN (year or device); BAD_VALUE;"
                + " NONE if it had these units.");
        HeatBills x = closed();
        x.addDevice(0, 1);
        int[] noYears = {-1, 1, 3, 4, MIN, MAX};
        for (int year : noYears) {
            DUE.is("correct(" + year + ", 0, 0)", x.correct(year, 0, 0), -1);
            DUE.is("correct(" + year + ", 0, -1), unknown before bad", x.correct(year, 0, -1), -1);
        }
        int[] noDevices = {-1, 2, 3, 20, MIN, MAX};
        for (int device : noDevices) {
            DUE.is("correct(0, " + device + ", 0)", x.correct(0, device, 0), -1);
            DUE.is("correct(0, " + device + ", 199981)", x.correct(0, device, 199981), -1);
        }
        DUE.is("correct(0, 0, 10), as it had", x.correct(0, 0, 10), -5);
        DUE.is("correct(0, 1, 30), as it had", x.correct(0, 1, 30), -5);
        DUE.is("count(11), nothing was corrected", x.count(11), 0);
        DUE.is("correct(0, 0, 11)", x.correct(0, 0, 11), 3);
        DUE.is("correct(0, 0, 11) again", x.correct(0, 0, 11), -5);
        x.close();
        DUE.is("correct(1, 2, 0), there in that year, and as it had", x.correct(1, 2, 0), -5);
        DUE.is("correct(1, 2, 1), no cost", x.correct(1, 2, 1), 0);
        DUE.is("correct(0, 2, 1), not there in that year", x.correct(0, 2, 1), -1);
    }

    private static void tenantsWithOtherBills() {
        DUE.sentence("Returns how many tenants have other bills then");
        HeatBills x = closed();
        // of 39 units, 10 cost 256, and 29 cost 744, 372 for each of the two tenants
        DUE.is("correct(0, 1, 29)", x.correct(0, 1, 29), 3);
        bills(x, 256, 372, 372);
        HeatBills free = Houses.withFlats(10, 10);
        free.addDevice(0, 1);
        free.read(0, 3);
        free.move(0, 6);
        free.close();
        DUE.is("correct(0, 0, 4), no cost", free.correct(0, 0, 4), 0);
        DUE.is("count(11), corrected all the same", free.count(11), 1);
        DUE.is("units(0, 0)", free.units(0, 0), 4);
        HeatBills all = Houses.withFlats(9, 9, 9, 9, 9, 9, 9, 9);
        for (int flat = 0; flat < 8; flat++) {
            all.addDevice(flat, 1);
            all.move(flat, 6);
        }
        all.set(0, 80000);
        all.close();
        DUE.is("correct(0, 0, 1), everybody", all.correct(0, 0, 1), 16);
        DUE.is("correct(0, 0, 2), nobody", all.correct(0, 0, 2), 0);
        HeatBills firstOnly = closed();
        firstOnly.undo();
        firstOnly.between(1, 1000);
        firstOnly.close();
        DUE.is("correct(0, 0, 0), the second pays nothing still", firstOnly.correct(0, 0, 0), 2);
        bills(firstOnly, 0, 1000, 0);
    }

    private static void correctBounds() {
        DUE.sentence("`units`: 0 to 199980");
        HeatBills x = closed();
        int[] outside = {-1, 199981, MIN, MAX, -199980};
        for (int units : outside) {
            DUE.is("correct(0, 0, " + units + ")", x.correct(0, 0, units), -2);
        }
        DUE.is("units(0, 0)", x.units(0, 0), 10);
        DUE.is("correct(0, 0, 0)", x.correct(0, 0, 0), 3);
        DUE.is("units(0, 0)", x.units(0, 0), 0);
        DUE.is("correct(0, 0, 199980)", x.correct(0, 0, 199980), 3);
        DUE.is("units(0, 0)", x.units(0, 0), 199980);
        // 1000 * 199980 / 200010 = 999.85
        bills(x, 1000, 0, 0);
    }

    private static void bill() {
        DUE.sentence("Returns the coins; UNKNOWN (year, flat, or there was no second tenant).");
        HeatBills open = Houses.withFlats(10);
        DUE.is("bill(0, 0, f, f), nothing is closed", open.bill(0, 0, false, false), -1);
        HeatBills x = closed();
        int[] noYears = {-1, 1, 4, MIN, MAX};
        for (int year : noYears) {
            DUE.is("bill(" + year + ", 0, f, f)", x.bill(year, 0, false, false), -1);
            DUE.is("bill(" + year + ", 0, f, t)", x.bill(year, 0, false, true), -1);
        }
        int[] noFlats = {-1, 2, 8, MIN, MAX};
        for (int flat : noFlats) {
            DUE.is("bill(0, " + flat + ", f, f)", x.bill(0, flat, false, false), -1);
            DUE.is("bill(0, " + flat + ", t, t)", x.bill(0, flat, true, true), -1);
        }
        DUE.is("bill(0, 0, t, f), no second tenant", x.bill(0, 0, true, false), -1);
        DUE.is("bill(0, 0, t, t), no second tenant", x.bill(0, 0, true, true), -1);
        bills(x, 250, 375, 375);
        x.undo();
        DUE.is("bill(0, 0, f, f), not closed any more", x.bill(0, 0, false, false), -1);
    }

    private static void units() {
        DUE.sentence("Returns the units that are kept of it; UNKNOWN (year or device).");
        HeatBills x = closed();
        x.addDevice(0, 1);
        int[] noYears = {-1, 1, 4, MIN, MAX};
        for (int year : noYears) {
            DUE.is("units(" + year + ", 0)", x.units(year, 0), -1);
        }
        int[] noDevices = {-1, 2, 3, 20, MIN, MAX};
        for (int device : noDevices) {
            DUE.is("units(0, " + device + ")", x.units(0, device), -1);
        }
        for (int device = 3; device < 20; device++) {
            x.addDevice(1, 20);
        }
        x.read(19, 9999);
        x.close();
        DUE.is("units(1, 2), nothing used", x.units(1, 2), 0);
        DUE.is("units(1, 19), most", x.units(1, 19), 199980);
        DUE.is("units(1, 20)", x.units(1, 20), -1);
        DUE.is("units(0, 19), not there then", x.units(0, 19), -1);
    }
}
