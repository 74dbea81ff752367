/** Promises 4, 5 and 6: numbers of the open year, readings, faulty devices, and how these are estimated. */
public final class ReadingsTest {
    private static final Due DUE = new Due("ReadingsTest");

    public static void main(String[] args) {
        set();
        read();
        mark();
        estimateByFactors();
        estimateByTheYearBefore();
        greatestUnits();
        DUE.end();
    }

    private static void set() {
        HeatBills x = new HeatBills();
        int[] most = {99999, 100, 1};
        int[] first = {0, 40, 0};
        for (int what = 0; what < 3; what++) {
            DUE.is("set, too little", x.set(what, -1), -2);
            DUE.is("set, too much", x.set(what, most[what] + 1), -2);
            DUE.is("set, as it is", x.set(what, first[what]), -5);
            DUE.is("set, most", x.set(what, most[what]), first[what]);
            DUE.is("set, as it is then", x.set(what, most[what]), -5);
            DUE.is("count", x.count(4 + what), most[what]);
            DUE.is("set, 0", x.set(what, 0), most[what]);
        }
        DUE.is("set(-1, 0)", x.set(-1, 0), -2);
        DUE.is("set(3, 0)", x.set(3, 0), -2);
        DUE.is("set(MIN, 0)", x.set(Integer.MIN_VALUE, 0), -2);
    }

    private static void read() {
        HeatBills x = Houses.ofFourDevices();
        DUE.is("read(4, -1), unknown before bad", x.read(4, -1), -1);
        DUE.is("read(-1, 0)", x.read(-1, 0), -1);
        DUE.is("read(0, -1)", x.read(0, -1), -2);
        DUE.is("read(0, 10000)", x.read(0, 10000), -2);
        DUE.is("read(1, 0)", x.read(1, 0), -5);
        DUE.is("read(1, 7)", x.read(1, 7), 21);
        DUE.is("read(1, 3), less than before", x.read(1, 3), 9);
        x.close();
        DUE.is("read(1, 2)", x.read(1, 2), -4);
        DUE.is("read(1, -1), bad before not possible", x.read(1, -1), -2);
        DUE.is("read(1, 3), as it is", x.read(1, 3), -5);
        DUE.is("read(1, 5)", x.read(1, 5), 6);
        x.mark(0, true);
        DUE.is("read(0, 100) of a faulty one: 2 * 6 / 9", x.read(0, 100), 1);
        DUE.is("device(0, 4), still faulty", x.device(0, 4), 1);
        DUE.is("device(0, 3)", x.device(0, 3), 100);
        DUE.is("read(0, 100) again", x.read(0, 100), -5);
    }

    private static void mark() {
        HeatBills x = Houses.ofFourDevices();
        DUE.is("mark(4, true)", x.mark(4, true), -1);
        DUE.is("mark(-1, false)", x.mark(-1, false), -1);
        DUE.is("mark(0, false)", x.mark(0, false), -5);
        DUE.is("mark(0, true)", x.mark(0, true), 1);
        DUE.is("mark(0, true) again", x.mark(0, true), -5);
        DUE.is("mark(3, true)", x.mark(3, true), 2);
        DUE.is("mark(0, false)", x.mark(0, false), 1);
        DUE.is("count(3)", x.count(3), 1);
        x.close();
        DUE.is("count(3) after a close", x.count(3), 1);
    }

    private static void estimateByFactors() {
        HeatBills x = Houses.ofFourDevices();
        x.read(0, 10);
        x.read(1, 10);
        x.read(3, 3);
        x.mark(2, true);
        DUE.is("device(2, 5): 1 * 65 / 10", x.device(2, 5), 6);
        x.mark(3, true);
        DUE.is("device(3, 5): 5 * 50 / 5", x.device(3, 5), 50);
        DUE.is("device(2, 5): 1 * 50 / 5", x.device(2, 5), 10);
        x.mark(0, true);
        x.mark(1, true);
        DUE.is("device(0, 5), none is sound", x.device(0, 5), 0);
        DUE.is("count(8), none is sound", x.count(8), 0);
        x.mark(2, false);
        x.read(2, 7);
        DUE.is("device(3, 5), by one device of factor 1", x.device(3, 5), 35);
        x.mark(2, true);
        x.set(2, 1);
        x.mark(0, false);
        DUE.is("device(2, 5), no year before: 1 * 20 / 2", x.device(2, 5), 10);
    }

    private static void estimateByTheYearBefore() {
        HeatBills x = Houses.ofFourDevices();
        x.read(0, 8);
        x.read(1, 5);
        x.set(2, 1);
        x.close();
        x.mark(1, true);
        x.read(0, 10);
        DUE.is("device(1, 5), as the year before", x.device(1, 5), 15);
        x.correct(0, 1, 77);
        DUE.is("device(1, 5), as it was corrected", x.device(1, 5), 77);
        x.addDevice(0, 4);
        x.mark(4, true);
        DUE.is("device(4, 5), not there: 4 * 4 / 8", x.device(4, 5), 2);
        x.set(2, 0);
        DUE.is("device(1, 5), manner 0: 3 * 4 / 8", x.device(1, 5), 1);
        x.set(2, 1);
        x.close();
        DUE.is("units(1, 1)", x.units(1, 1), 77);
        DUE.is("units(1, 4)", x.units(1, 4), 2);
        x.correct(0, 1, 1);
        DUE.is("device(1, 5), of the year before alone", x.device(1, 5), 77);
        DUE.is("device(4, 5), it was there", x.device(4, 5), 2);
        x.correct(1, 4, 9);
        DUE.is("device(4, 5), corrected", x.device(4, 5), 9);
    }

    private static void greatestUnits() {
        HeatBills x = Houses.withFlats(200, 1);
        for (int i = 0; i < 20; i++) {
            x.addDevice(0, 20);
        }
        x.set(0, 99999);
        x.set(1, 0);
        for (int i = 0; i < 20; i++) {
            DUE.is("read", x.read(i, 9999), 199980);
        }
        DUE.is("count(8)", x.count(8), 3999600);
        DUE.is("flat(0, 4)", x.flat(0, 4), 99999);
        x.mark(3, true);
        DUE.is("device(3, 5)", x.device(3, 5), 199980);
    }
}
