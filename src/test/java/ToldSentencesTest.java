/** Promises 17, 18 and 25, and the constants: a test of its own for each sentence that names a bound. */
public final class ToldSentencesTest {
    private static final Due DUE = new Due("ToldSentencesTest");
    private static final int MIN = Integer.MIN_VALUE;
    private static final int MAX = Integer.MAX_VALUE;

    public static void main(String[] args) {
        constants();
        flat();
        flatInTheOpenYear();
        flatErrors();
        device();
        deviceErrors();
        count();
        countOfAnEmptyHouse();
        countOfABrimfulHouse();
        countErrors();
        severalHouses();
        DUE.end();
    }

    private static void constants() {
        DUE.sentence("`UNKNOWN = -1`: There is no such flat, device, year or tenant.");
        DUE.is("UNKNOWN", HeatBills.UNKNOWN, -1);
        DUE.sentence("`BAD_VALUE = -2`: Another argument is out of range.");
        DUE.is("BAD_VALUE", HeatBills.BAD_VALUE, -2);
        DUE.sentence("`FULL = -3`: There is no more room.");
        DUE.is("FULL", HeatBills.FULL, -3);
        DUE.sentence("`NOT_POSSIBLE = -4`: This is not possible.");
        DUE.is("NOT_POSSIBLE", HeatBills.NOT_POSSIBLE, -4);
        DUE.sentence("`NONE = -5`: There is no such thing; not an error.");
        DUE.is("NONE", HeatBills.NONE, -5);
    }

    private static void are(HeatBills x, String call, int... want) {
        for (int what = 0; what < want.length; what++) {
            int got = call.equals("flat") ? x.flat(0, what) : call.equals("device") ? x.device(0, what) : x.count(what);
            DUE.is(call + ", " + what, got, want[what]);
        }
    }

    private static void flat() {
        DUE.sentence("0 for its area, 1 for its devices (as bits), 2 for its units, 3 for its base cost,"
                + " 4 for its cost by units, 5 for its bill, 6 for the month of a move (NONE without one),"
                + " 7 for the reading in between (NONE without one), in the open year as it is now");
        HeatBills x = Houses.withFlats(200, 50);
        are(x, "flat", 200, 0, 0, 0, 0, 0, -5, -5);
        x.set(0, 1000);
        are(x, "flat", 200, 0, 0, 320, 480, 800, -5, -5);
        x.addDevice(0, 20);
        x.addDevice(1, 20);
        x.read(1, 9999);
        are(x, "flat", 200, 1, 0, 320, 0, 320, -5, -5);
        x.read(0, 9999);
        are(x, "flat", 200, 1, 199980, 320, 300, 620, -5, -5);
        x.move(0, 11);
        are(x, "flat", 200, 1, 199980, 320, 300, 620, 11, -5);
        x.between(0, 1000);
        are(x, "flat", 200, 1, 199980, 320, 300, 620, 11, 1000);
        x.between(0, 0);
        are(x, "flat", 200, 1, 199980, 320, 300, 620, 11, 0);
        for (int device = 2; device < 20; device++) {
            x.addDevice(0, 1);
        }
        DUE.is("flat(0, 1), all but one", x.flat(0, 1), (1 << 20) - 3);
        DUE.is("flat(1, 1)", x.flat(1, 1), 2);
    }

    private static void flatInTheOpenYear() {
        DUE.sentence("in the open year as it is now");
        HeatBills x = Houses.withFlats(100);
        x.addDevice(0, 3);
        x.read(0, 5);
        x.set(0, 1000);
        x.move(0, 6);
        x.between(0, 7);
        x.close();
        are(x, "flat", 100, 1, 0, 0, 0, 0, -5, -5);
        x.correct(0, 0, 77);
        are(x, "flat", 100, 1, 0, 0, 0, 0, -5, -5);
        x.undo();
        x.undo();
        are(x, "flat", 100, 1, 15, 400, 600, 1000, 6, 7);
    }

    private static void flatErrors() {
        DUE.sentence("Returns the number; UNKNOWN; BAD_VALUE.");
        HeatBills x = Houses.withFlats(100);
        int[] noFlats = {-1, 1, 8, MIN, MAX};
        for (int flat : noFlats) {
            for (int what = -1; what <= 8; what++) {
                DUE.is("flat(" + flat + ", " + what + ")", x.flat(flat, what), -1);
            }
        }
        int[] outside = {-1, 8, MIN, MAX};
        for (int what : outside) {
            DUE.is("flat(0, " + what + ")", x.flat(0, what), -2);
        }
    }

    private static void device() {
        DUE.sentence("0 for its flat, 1 for its factor, 2 for its reading at the beginning, 3 for that at the end,"
                + " 4 for whether it is faulty (1, otherwise 0), 5 for its units in the open year as it is now");
        HeatBills x = Houses.withFlats(1, 2, 3, 4, 5, 6, 7, 8);
        x.addDevice(7, 20);
        are(x, "device", 7, 20, 0, 0, 0, 0);
        x.read(0, 9998);
        are(x, "device", 7, 20, 0, 9998, 0, 199960);
        x.mark(0, true);
        are(x, "device", 7, 20, 0, 9998, 1, 0);
        x.close();
        are(x, "device", 7, 20, 9998, 9998, 1, 0);
        x.mark(0, false);
        x.read(0, 9999);
        are(x, "device", 7, 20, 9998, 9999, 0, 20);
        x.addDevice(6, 1);
        x.mark(0, true);
        x.read(1, 9999);
        DUE.is("device(0, 5), estimated at once", x.device(0, 5), 199980);
        x.read(1, 1);
        DUE.is("device(0, 5), estimated anew", x.device(0, 5), 20);
    }

    private static void deviceErrors() {
        DUE.sentence("Returns the number; UNKNOWN; BAD_VALUE.");
        HeatBills x = Houses.withFlats(100);
        x.addDevice(0, 1);
        int[] noDevices = {-1, 1, 20, MIN, MAX};
        for (int device : noDevices) {
            for (int what = -1; what <= 6; what++) {
                DUE.is("device(" + device + ", " + what + ")", x.device(device, what), -1);
            }
        }
        int[] outside = {-1, 6, MIN, MAX};
        for (int what : outside) {
            DUE.is("device(0, " + what + ")", x.device(0, what), -2);
        }
    }

    private static void count() {
        DUE.sentence("10 for all bills that are kept (as they are corrected), 11 for corrections so far,"
                + " 12 for moves in the open year, 13 for the states in the history, 14 for the length of the text");
        HeatBills x = Houses.withFlats(10, 10);
        x.addDevice(0, 1);
        x.addDevice(1, 2);
        x.set(0, 1001);
        x.move(0, 6);
        x.close();
        x.type('a');
        are(x, "count", 1, 2, 2, 0, 0, 40, 0, 20, 0, 0, 1001, 0, 0, 4, 1);
        x.correct(0, 0, 1);
        x.correct(0, 0, 1);
        x.correct(0, 1, 1);
        x.correct(0, 9, 1);
        are(x, "count", 1, 2, 2, 0, 0, 40, 0, 20, 0, 0, 1001, 2, 0, 4, 1);
        x.set(0, 99999);
        x.close();
        are(x, "count", 2, 2, 2, 0, 0, 40, 0, 20, 0, 0, 101000, 2, 0, 4, 1);
        x.correct(1, 0, 5);
        x.undo();
        x.undo();
        are(x, "count", 1, 2, 2, 0, 99999, 40, 0, 20, 0, 99999, 1001, 2, 0, 2, 1);
    }

    private static void countOfAnEmptyHouse() {
        DUE.sentence("7 for the area of all flats, 8 for the units of all flats, 9 for all bills of the open year");
        HeatBills x = new HeatBills();
        are(x, "count", 0, 0, 0, 0, 0, 40, 0, 0, 0, 0, 0, 0, 0, 0, 0);
        x.set(0, 99999);
        are(x, "count", 0, 0, 0, 0, 99999, 40, 0, 0, 0, 0, 0, 0, 0, 1, 0);
        x.addFlat(1);
        are(x, "count", 0, 1, 0, 0, 99999, 40, 0, 1, 0, 99999, 0, 0, 0, 2, 0);
    }

    private static void countOfABrimfulHouse() {
        DUE.sentence("0 for the open year, 1 for flats, 2 for devices, 3 for faulty ones, 4 for the cost,"
                + " 5 for the base share, 6 for the manner");
        HeatBills x = new HeatBills();
        for (int flat = 0; flat < 8; flat++) {
            x.addFlat(200);
        }
        for (int device = 0; device < 20; device++) {
            x.addDevice(device % 8, 20);
            x.read(device, 9999);
        }
        x.set(1, 100);
        x.set(2, 1);
        for (int year = 0; year < 4; year++) {
            x.set(0, 99999);
            if (year < 3) {
                x.close();
            }
        }
        for (int flat = 0; flat < 8; flat++) {
            x.move(flat, 1 + flat);
        }
        for (int i = 0; i < 60; i++) {
            x.type('0');
        }
        for (int device = 0; device < 20; device++) {
            x.mark(device, true);
        }
        are(x, "count", 3, 8, 20, 20, 99999, 100, 1, 1600, 0, 99999, 299997, 0, 8, 4, 60);
        x.close();
        are(x, "count", 4, 8, 20, 20, 0, 100, 1, 1600, 0, 0, 399996, 0, 0, 4, 60);
        x.correct(3, 19, 199980);
        are(x, "count", 4, 8, 20, 20, 0, 100, 1, 1600, 199980, 0, 399996, 1, 0, 4, 60);
    }

    private static void countErrors() {
        DUE.sentence("Returns the number; BAD_VALUE.");
        HeatBills x = new HeatBills();
        int[] outside = {-1, 15, 16, 100, MIN, MAX};
        for (int what : outside) {
            DUE.is("count(" + what + ")", x.count(what), -2);
        }
    }

    private static void severalHouses() {
        DUE.sentence("Creates a house without flats, in the year 0.");
        HeatBills x = Brimful.house();
        HeatBills y = new HeatBills();
        are(y, "count", 0, 0, 0, 0, 0, 40, 0, 0, 0, 0, 0, 0, 0, 0, 0);
        DUE.is("restore() of another house", y.restore(), -5);
        DUE.is("undo() of another house", y.undo(), -5);
        y.addFlat(9);
        DUE.is("flat(0, 0), each its own", x.flat(0, 0), 200);
        DUE.is("flat(0, 0), each its own", y.flat(0, 0), 9);
    }
}
