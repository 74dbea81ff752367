/** Promises 10, 11, 20 and 21: closed years, what is kept of them, and corrections. */
public final class YearsTest {
    private static final Due DUE = new Due("YearsTest");

    public static void main(String[] args) {
        close();
        bill();
        correct();
        correctKeepsTheYear();
        correctErrors();
        units();
        DUE.end();
    }

    private static HeatBills closedHouse() {
        HeatBills x = Houses.ofFourDevices();
        x.set(0, 1001);
        x.read(0, 10);
        x.read(1, 10);
        x.read(3, 3);
        x.mark(2, true);
        x.move(1, 3);
        x.between(1, 900);
        x.close();
        return x;
    }

    private static void close() {
        HeatBills x = new HeatBills();
        DUE.is("close(), no flats", x.close(), -4);
        x.addFlat(10);
        x.addDevice(0, 2);
        x.addDevice(0, 3);
        x.set(0, 500);
        x.set(1, 70);
        x.set(2, 1);
        x.read(0, 4);
        x.read(1, 6);
        x.mark(1, true);
        for (int year = 0; year < 4; year++) {
            DUE.is("count(0)", x.count(0), year);
            DUE.is("close()", x.close(), year);
            DUE.is("count(4), the cost", x.count(4), 0);
            DUE.is("count(5), the base share", x.count(5), 70);
            DUE.is("count(6), the manner", x.count(6), 1);
            DUE.is("count(3), the faulty ones", x.count(3), 1);
            DUE.is("device(0, 2)", x.device(0, 2), 4);
            DUE.is("device(1, 2), faulty", x.device(1, 2), 6);
            DUE.is("device(1, 3), faulty", x.device(1, 3), 6);
            DUE.is("device(0, 5)", x.device(0, 5), 0);
            DUE.is("device(1, 5), as before", x.device(1, 5), 12);
        }
        DUE.is("close(), the fifth", x.close(), -3);
        DUE.is("count(0)", x.count(0), 4);
        DUE.is("keep()", x.keep(), 4);
        DUE.is("set(0, 9) in the year 4", x.set(0, 9), 0);
        DUE.is("flat(0, 5) in the year 4", x.flat(0, 5), 9);
        DUE.is("count(10)", x.count(10), 500);
    }

    private static void bill() {
        HeatBills x = closedHouse();
        DUE.is("bill(0, 0, f, f)", x.bill(0, 0, false, false), 369);
        DUE.is("bill(0, 1, f, f)", x.bill(0, 1, false, false), 304);
        DUE.is("bill(0, 1, t, f)", x.bill(0, 1, true, false), 121);
        DUE.is("bill(0, 2, f, f)", x.bill(0, 2, false, false), 207);
        DUE.is("bill(0, 1, t, t)", x.bill(0, 1, true, true), 1000000);
        DUE.is("bill(0, 0, t, f), nobody", x.bill(0, 0, true, false), -1);
        DUE.is("bill(0, 0, t, t), nobody", x.bill(0, 0, true, true), -1);
        DUE.is("bill(0, 3, f, f)", x.bill(0, 3, false, false), -1);
        DUE.is("bill(0, -1, t, f)", x.bill(0, -1, true, false), -1);
        DUE.is("bill(1, 0, f, f), open", x.bill(1, 0, false, false), -1);
        DUE.is("bill(-1, 0, f, f)", x.bill(-1, 0, false, false), -1);
        DUE.is("bill(MIN, MIN, t, t)", x.bill(Integer.MIN_VALUE, Integer.MIN_VALUE, true, true), -1);
        x.set(0, 77);
        x.move(0, 2);
        DUE.is("bill(0, 0, f, f), kept", x.bill(0, 0, false, false), 369);
        DUE.is("bill(0, 0, t, f), moved later", x.bill(0, 0, true, false), -1);
    }

    private static void correct() {
        HeatBills x = closedHouse();
        DUE.is("correct(0, 0, 60)", x.correct(0, 0, 60), 4);
        DUE.is("bill(0, 0, f, f)", x.bill(0, 0, false, false), 525);
        DUE.is("bill(0, 0, f, t)", x.bill(0, 0, false, true), 1000156);
        DUE.is("bill(0, 1, t, t)", x.bill(0, 1, true, true), 999989);
        DUE.is("units(0, 0)", x.units(0, 0), 60);
        DUE.is("count(10)", x.count(10), 1001);
        DUE.is("correct(0, 0, 20)", x.correct(0, 0, 20), 4);
        DUE.is("bill(0, 0, f, t), back again", x.bill(0, 0, false, true), 1000000);
        DUE.is("count(11)", x.count(11), 2);
        DUE.is("undo()", x.undo(), 3);
        DUE.is("count(11), undone", x.count(11), 1);
        DUE.is("bill(0, 0, f, t), undone", x.bill(0, 0, false, true), 1000156);
    }

    /** Later settings, devices and moves change nothing in the closed year. */
    private static void correctKeepsTheYear() {
        HeatBills x = Houses.withFlats(10, 30);
        x.addDevice(0, 1);
        x.addDevice(1, 1);
        x.set(0, 1000);
        x.set(1, 10);
        x.read(0, 30);
        x.read(1, 70);
        x.move(1, 6);
        x.close();
        x.set(0, 5);
        x.set(1, 100);
        x.set(2, 1);
        x.addDevice(0, 20);
        x.read(0, 999);
        x.read(2, 999);
        x.mark(1, true);
        x.move(0, 1);
        // the base cost of 100 is shared as 25 and 75, the other 900 as 450 and 450
        DUE.is("correct(0, 1, 30)", x.correct(0, 1, 30), 3);
        DUE.is("bill(0, 0, f, f)", x.bill(0, 0, false, false), 475);
        DUE.is("bill(0, 1, f, f): 37 + 262", x.bill(0, 1, false, false), 299);
        DUE.is("bill(0, 1, t, f)", x.bill(0, 1, true, false), 226);
        DUE.is("correct(0, 0, 0)", x.correct(0, 0, 0), 3);
        DUE.is("correct(0, 1, 0), by areas then", x.correct(0, 1, 0), 3);
        DUE.is("bill(0, 0, f, f), by areas", x.bill(0, 0, false, false), 250);
        DUE.is("correct(0, 0, 199980)", x.correct(0, 0, 199980), 3);
        DUE.is("correct(0, 0, 199979), nothing changes", x.correct(0, 0, 199979), 0);
        DUE.is("count(11)", x.count(11), 5);
        DUE.is("device(1, 5), by the correction", x.device(1, 5), 0);
        x.close();
        DUE.is("units(1, 1)", x.units(1, 1), 0);
        x.correct(0, 1, 44);
        DUE.is("units(1, 1), of the later year", x.units(1, 1), 0);
    }

    private static void correctErrors() {
        HeatBills x = closedHouse();
        x.addDevice(0, 1);
        DUE.is("correct(1, 0, 0), open", x.correct(1, 0, 0), -1);
        DUE.is("correct(-1, 0, -1), unknown before bad", x.correct(-1, 0, -1), -1);
        DUE.is("correct(0, 4, 0), not there", x.correct(0, 4, 0), -1);
        DUE.is("correct(0, -1, 0)", x.correct(0, -1, 0), -1);
        DUE.is("correct(0, 0, -1)", x.correct(0, 0, -1), -2);
        DUE.is("correct(0, 0, 199981)", x.correct(0, 0, 199981), -2);
        DUE.is("correct(0, 0, 20), as it was", x.correct(0, 0, 20), -5);
        DUE.is("count(11)", x.count(11), 0);
        DUE.is("correct(0, 0, 199980)", x.correct(0, 0, 199980), 4);
    }

    private static void units() {
        HeatBills x = closedHouse();
        int[] kept = {20, 30, 6, 15};
        x.addDevice(0, 1);
        for (int device = 0; device < 4; device++) {
            DUE.is("units(0, " + device + ")", x.units(0, device), kept[device]);
        }
        DUE.is("units(0, 4), not there", x.units(0, 4), -1);
        DUE.is("units(0, -1)", x.units(0, -1), -1);
        DUE.is("units(1, 0), open", x.units(1, 0), -1);
        DUE.is("units(-1, 0)", x.units(-1, 0), -1);
        x.read(0, 1000);
        x.close();
        DUE.is("units(1, 0)", x.units(1, 0), 1980);
        DUE.is("units(1, 4)", x.units(1, 4), 0);
        DUE.is("units(0, 0)", x.units(0, 0), 20);
    }
}
