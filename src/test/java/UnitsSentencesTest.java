/** UNITS: a test of its own for each sentence that names a bound. */
public final class UnitsSentencesTest {
    private static final Due DUE = new Due("UnitsSentencesTest");

    public static void main(String[] args) {
        sound();
        keptOfTheYearBefore();
        asCorrected();
        noYearBefore();
        notThereBefore();
        roundedDown();
        noneIsSound();
        greatestEstimate();
        flatTogether();
        DUE.end();
    }

    private static void sound() {
        DUE.sentence("A sound device has so many units:"
                + " its reading at the end less that at the beginning, times its factor.");
        HeatBills x = Houses.withFlats(10);
        x.addDevice(0, 20);
        x.addDevice(0, 1);
        DUE.is("device(0, 5), nothing used", x.device(0, 5), 0);
        x.read(0, 9999);
        x.read(1, 9999);
        DUE.is("device(0, 5), most", x.device(0, 5), 199980);
        DUE.is("device(1, 5), the factor 1", x.device(1, 5), 9999);
        x.read(0, 9998);
        x.close();
        DUE.is("device(0, 5), a new year", x.device(0, 5), 0);
        x.read(0, 9999);
        DUE.is("device(0, 5), one at the limit", x.device(0, 5), 20);
        x.mark(0, true);
        x.mark(0, false);
        DUE.is("device(0, 5), sound again", x.device(0, 5), 20);
    }

    /** Device 0 is read, device 1 is the one that is estimated. */
    private static HeatBills withUnitsBefore(int readingOfOne) {
        HeatBills x = Houses.withFlats(10);
        x.addDevice(0, 4);
        x.addDevice(0, 3);
        x.read(1, readingOfOne);
        x.set(2, 1);
        x.close();
        x.read(0, 100);
        x.mark(1, true);
        return x;
    }

    private static void keptOfTheYearBefore() {
        DUE.sentence("A faulty device has, by the manner 1, the units that are kept of it of the year before");
        HeatBills x = withUnitsBefore(50);
        DUE.is("device(1, 5), by the manner 1", x.device(1, 5), 150);
        x.set(2, 0);
        DUE.is("device(1, 5), by the manner 0: 3 * 400 / 4", x.device(1, 5), 300);
        x.set(2, 1);
        x.close();
        DUE.is("units(1, 1), an estimate is kept", x.units(1, 1), 150);
        DUE.is("device(1, 5), by the estimate of the year before", x.device(1, 5), 150);
        x.mark(1, false);
        DUE.is("close(), nothing used", x.close(), 2);
        x.mark(1, true);
        DUE.is("device(1, 5), of the year before alone", x.device(1, 5), 0);
        HeatBills y = withUnitsBefore(0);
        DUE.is("device(1, 5), 0 units that are kept", y.device(1, 5), 0);
        HeatBills z = withUnitsBefore(9999);
        DUE.is("device(1, 5), most", z.device(1, 5), 29997);
    }

    private static void asCorrected() {
        DUE.sentence("(as they were corrected, if they were)");
        HeatBills x = withUnitsBefore(50);
        x.correct(0, 1, 199980);
        DUE.is("device(1, 5), corrected to the most", x.device(1, 5), 199980);
        x.correct(0, 1, 0);
        DUE.is("device(1, 5), corrected to 0", x.device(1, 5), 0);
        x.correct(0, 0, 7);
        DUE.is("device(1, 5), another one was corrected", x.device(1, 5), 0);
        x.undo();
        x.undo();
        x.undo();
        DUE.is("device(1, 5), undone", x.device(1, 5), 150);
        x.close();
        x.correct(0, 1, 9);
        DUE.is("device(1, 5), a year earlier was corrected", x.device(1, 5), 150);
    }

    private static void noYearBefore() {
        DUE.sentence("if there was one (and the device was there); otherwise, and by the manner 0, its factor");
        HeatBills x = Houses.withFlats(10);
        x.addDevice(0, 4);
        x.addDevice(0, 3);
        x.read(0, 100);
        x.read(1, 7);
        x.mark(1, true);
        DUE.is("device(1, 5), the year 0, manner 0", x.device(1, 5), 300);
        x.set(2, 1);
        DUE.is("device(1, 5), the year 0, manner 1", x.device(1, 5), 300);
    }

    private static void notThereBefore() {
        DUE.sentence("(and the device was there)");
        HeatBills x = withUnitsBefore(50);
        x.addDevice(0, 2);
        x.mark(2, true);
        DUE.is("device(2, 5), not there: 2 * 400 / 4", x.device(2, 5), 200);
        DUE.is("device(1, 5), there", x.device(1, 5), 150);
        x.close();
        DUE.is("device(2, 5), there then", x.device(2, 5), 200);
        x.addDevice(0, 5);
        x.mark(3, true);
        DUE.is("device(3, 5), not there: nothing is used", x.device(3, 5), 0);
        x.read(0, 104);
        DUE.is("device(3, 5), not there: 5 * 16 / 4", x.device(3, 5), 20);
    }

    private static void roundedDown() {
        DUE.sentence("its factor times the units of all sound devices,"
                + " divided by the factors of all sound devices together, rounded down");
        HeatBills x = Houses.withFlats(10, 10);
        x.addDevice(0, 2);
        x.addDevice(1, 5);
        x.addDevice(1, 3);
        x.mark(2, true);
        x.read(0, 1);
        DUE.is("device(2, 5): 6 / 7", x.device(2, 5), 0);
        x.read(0, 2);
        DUE.is("device(2, 5): 12 / 7", x.device(2, 5), 1);
        x.read(0, 7);
        DUE.is("device(2, 5): 42 / 7", x.device(2, 5), 6);
        x.read(1, 4);
        DUE.is("device(2, 5): 102 / 7, of both flats", x.device(2, 5), 14);
        x.read(2, 5);
        DUE.is("device(2, 5), its own reading is nothing", x.device(2, 5), 14);
        x.mark(1, true);
        DUE.is("device(2, 5): 42 / 2, of one device", x.device(2, 5), 21);
        DUE.is("device(1, 5): 70 / 2", x.device(1, 5), 35);
    }

    private static void noneIsSound() {
        DUE.sentence("rounded down (0 if there is none)");
        HeatBills x = Houses.withFlats(10);
        x.addDevice(0, 20);
        x.read(0, 9999);
        DUE.is("mark(0, true), the only device", x.mark(0, true), 1);
        DUE.is("device(0, 5)", x.device(0, 5), 0);
        DUE.is("flat(0, 2)", x.flat(0, 2), 0);
        DUE.is("count(8)", x.count(8), 0);
        DUE.is("close()", x.close(), 0);
        DUE.is("units(0, 0)", x.units(0, 0), 0);
        x.addDevice(0, 1);
        DUE.is("device(0, 5), a sound one, nothing used", x.device(0, 5), 0);
        x.read(1, 3);
        DUE.is("device(0, 5): 20 * 3 / 1", x.device(0, 5), 60);
    }

    private static void greatestEstimate() {
        DUE.sentence("its factor times the units of all sound devices");
        HeatBills x = Houses.withFlats(10);
        for (int device = 0; device < 20; device++) {
            x.addDevice(0, 20);
            x.read(device, 9999);
        }
        x.mark(19, true);
        DUE.is("device(19, 5): 20 * 3799620 / 380", x.device(19, 5), 199980);
        for (int device = 1; device < 19; device++) {
            x.mark(device, true);
        }
        DUE.is("device(7, 5): 20 * 199980 / 20", x.device(7, 5), 199980);
        DUE.is("count(8)", x.count(8), 3999600);
    }

    private static void flatTogether() {
        DUE.sentence("A flat has the units of its devices together.");
        HeatBills x = Houses.withFlats(10, 10, 10);
        DUE.is("flat(0, 2), no device at all", x.flat(0, 2), 0);
        for (int device = 0; device < 20; device++) {
            x.addDevice(device == 0 ? 0 : 2, 20);
            x.read(device, 9999);
        }
        DUE.is("flat(0, 2), one device", x.flat(0, 2), 199980);
        DUE.is("flat(1, 2), no device", x.flat(1, 2), 0);
        DUE.is("flat(2, 2), nineteen devices", x.flat(2, 2), 3799620);
        x.read(0, 0);
        x.mark(1, true);
        DUE.is("flat(0, 2), nothing used", x.flat(0, 2), 0);
        DUE.is("flat(2, 2): 18 * 199980 + 20 * 3599640 / 380", x.flat(2, 2), 3599640 + 189454);
        DUE.is("count(8)", x.count(8), 3599640 + 189454);
    }
}
