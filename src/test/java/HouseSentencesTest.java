/** THE HOUSE, and promises 1 to 6: a test of its own for each sentence that names a bound. */
public final class HouseSentencesTest {
    private static final Due DUE = new Due("HouseSentencesTest");
    private static final int MIN = Integer.MIN_VALUE;
    private static final int MAX = Integer.MAX_VALUE;

    public static void main(String[] args) {
        flats();
        areas();
        devices();
        factors();
        readings();
        soundAtFirst();
        openYear();
        numbersOfTheYear();
        months();
        newObject();
        addFlat();
        addDevice();
        set();
        read();
        mark();
        DUE.end();
    }

    private static void flats() {
        DUE.sentence("There are at most 8 flats, numbered from 0");
        HeatBills x = new HeatBills();
        DUE.is("flat(0, 0), no flat", x.flat(0, 0), -1);
        for (int flat = 0; flat < 8; flat++) {
            DUE.is("addFlat", x.addFlat(11 + flat), flat);
            DUE.is("flat, the newest", x.flat(flat, 0), 11 + flat);
            DUE.is("flat, the next one", x.flat(flat + 1, 0), -1);
        }
        DUE.is("addFlat, the ninth", x.addFlat(19), -3);
        DUE.is("count(1), full", x.count(1), 8);
        DUE.is("count(7), full", x.count(7), 8 * 11 + 28);
        DUE.is("count(12), full, nobody moves", x.count(12), 0);
        DUE.is("flat(-1, 0)", x.flat(-1, 0), -1);
        DUE.is("flat(8, 0)", x.flat(8, 0), -1);
        DUE.is("undo(), room again", x.undo(), 3);
        DUE.is("addFlat, the eighth anew", x.addFlat(200), 7);
        DUE.is("flat(7, 0)", x.flat(7, 0), 200);
        DUE.is("addFlat, the ninth", x.addFlat(1), -3);
    }

    private static void areas() {
        DUE.sentence("each with an area (1 to 200)");
        HeatBills x = new HeatBills();
        int[] outside = {0, -1, 201, MIN, MAX, 1 + (1 << 8), -200};
        for (int area : outside) {
            DUE.is("addFlat(" + area + ")", x.addFlat(area), -2);
        }
        DUE.is("count(1)", x.count(1), 0);
        DUE.is("addFlat(1)", x.addFlat(1), 0);
        DUE.is("addFlat(200)", x.addFlat(200), 1);
        DUE.is("flat(0, 0)", x.flat(0, 0), 1);
        DUE.is("flat(1, 0)", x.flat(1, 0), 200);
    }

    private static void devices() {
        DUE.sentence("There are at most 20 devices, numbered from 0");
        HeatBills x = Houses.withFlats(10, 10);
        DUE.is("device(0, 0), no device", x.device(0, 0), -1);
        for (int device = 0; device < 20; device++) {
            DUE.is("addDevice", x.addDevice(device == 19 ? 1 : 0, 20 - device), device);
            DUE.is("device, the newest", x.device(device, 1), 20 - device);
            DUE.is("device, the next one", x.device(device + 1, 1), -1);
        }
        DUE.is("addDevice(0, 1), the 21st", x.addDevice(0, 1), -3);
        DUE.is("addDevice(1, 1), another flat", x.addDevice(1, 1), -3);
        DUE.is("count(2), full", x.count(2), 20);
        DUE.is("count(3), full, all sound", x.count(3), 0);
        DUE.is("flat(0, 1)", x.flat(0, 1), (1 << 19) - 1);
        DUE.is("flat(1, 1)", x.flat(1, 1), 1 << 19);
        DUE.is("device(-1, 0)", x.device(-1, 0), -1);
        DUE.is("device(20, 0)", x.device(20, 0), -1);
        DUE.is("undo(), room again", x.undo(), 3);
        DUE.is("flat(1, 1), none left", x.flat(1, 1), 0);
        DUE.is("addDevice(0, 5), the twentieth anew", x.addDevice(0, 5), 19);
        DUE.is("device(19, 0)", x.device(19, 0), 0);
        DUE.is("flat(0, 1), all", x.flat(0, 1), (1 << 20) - 1);
    }

    private static void factors() {
        DUE.sentence("has a factor (1 to 20)");
        HeatBills x = Houses.withFlats(10);
        int[] outside = {0, -1, 21, MIN, MAX, -20};
        for (int factor : outside) {
            DUE.is("addDevice(0, " + factor + ")", x.addDevice(0, factor), -2);
        }
        DUE.is("count(2)", x.count(2), 0);
        DUE.is("addDevice(0, 1)", x.addDevice(0, 1), 0);
        DUE.is("addDevice(0, 20)", x.addDevice(0, 20), 1);
        DUE.is("device(0, 1)", x.device(0, 1), 1);
        DUE.is("device(1, 1)", x.device(1, 1), 20);
    }

    private static void readings() {
        DUE.sentence("two readings, one at the beginning of the year and one at its end"
                + " (0 to 9999 each; 0 at first; the latter is not less than the former)");
        HeatBills x = Houses.withFlats(10);
        x.addDevice(0, 3);
        DUE.is("device(0, 2), at first", x.device(0, 2), 0);
        DUE.is("device(0, 3), at first", x.device(0, 3), 0);
        int[] outside = {-1, 10000, MIN, MAX};
        for (int reading : outside) {
            DUE.is("read(0, " + reading + ")", x.read(0, reading), -2);
        }
        DUE.is("device(0, 3), as it was", x.device(0, 3), 0);
        DUE.is("read(0, 9999)", x.read(0, 9999), 29997);
        DUE.is("read(0, 0), back to the beginning", x.read(0, 0), 0);
        DUE.is("read(0, 9998)", x.read(0, 9998), 29994);
        x.close();
        DUE.is("device(0, 2)", x.device(0, 2), 9998);
        DUE.is("read(0, 9997), one less", x.read(0, 9997), -4);
        DUE.is("read(0, 0)", x.read(0, 0), -4);
        DUE.is("read(0, 9999), one more", x.read(0, 9999), 3);
        DUE.is("read(0, 9998), as at the beginning", x.read(0, 9998), 0);
        x.read(0, 9999);
        x.close();
        DUE.is("device(0, 2), at the limit", x.device(0, 2), 9999);
        DUE.is("read(0, 10000)", x.read(0, 10000), -2);
        DUE.is("read(0, 9998)", x.read(0, 9998), -4);
        DUE.is("read(0, 9999), nothing more fits", x.read(0, 9999), -5);
        x.addDevice(0, 1);
        DUE.is("device(1, 2), 0 at first in a later year too", x.device(1, 2), 0);
        DUE.is("device(1, 3)", x.device(1, 3), 0);
        DUE.is("read(1, 1)", x.read(1, 1), 1);
    }

    private static void soundAtFirst() {
        DUE.sentence("is sound (at first) or faulty");
        HeatBills x = Houses.withFlats(10);
        x.addDevice(0, 1);
        DUE.is("device(0, 4)", x.device(0, 4), 0);
        x.mark(0, true);
        x.addDevice(0, 1);
        DUE.is("device(1, 4), beside a faulty one", x.device(1, 4), 0);
        DUE.is("device(0, 4)", x.device(0, 4), 1);
        x.undo();
        x.undo();
        x.undo();
        x.addDevice(0, 1);
        DUE.is("device(0, 4), in place of a faulty one", x.device(0, 4), 0);
    }

    private static void openYear() {
        DUE.sentence("There is one open year at a time, numbered from 0.");
        HeatBills x = Houses.withFlats(10);
        for (int year = 0; year < 4; year++) {
            DUE.is("count(0)", x.count(0), year);
            DUE.is("bill of the open year", x.bill(year, 0, false, false), -1);
            DUE.is("close()", x.close(), year);
            DUE.is("bill of the closed year", x.bill(year, 0, false, false), 0);
        }
        DUE.is("count(0), all are closed", x.count(0), 4);
        DUE.is("bill(4, 0, f, f), still open", x.bill(4, 0, false, false), -1);
        DUE.is("set(0, 5) in it", x.set(0, 5), 0);
        DUE.is("draft(0, f) in it", x.draft(0, false), 5);
    }

    private static void numbersOfTheYear() {
        DUE.sentence("It has a cost (0 to 99999; 0 at first)");
        setWithin(0, 0, 99999);
        DUE.sentence("a base share (0 to 100 percent; 40 at first)");
        setWithin(1, 40, 100);
        DUE.sentence("a manner of estimating (0 or 1; 0 at first)");
        setWithin(2, 0, 1);
    }

    private static void setWithin(int what, int first, int most) {
        HeatBills x = Houses.withFlats(10);
        DUE.is("count(" + (4 + what) + "), at first", x.count(4 + what), first);
        int[] outside = {-1, most + 1, MIN, MAX, -most};
        for (int value : outside) {
            DUE.is("set(" + what + ", " + value + ")", x.set(what, value), -2);
        }
        DUE.is("count(" + (4 + what) + "), as it was", x.count(4 + what), first);
        DUE.is("set(" + what + ", " + most + ")", x.set(what, most), first);
        DUE.is("count(" + (4 + what) + "), most", x.count(4 + what), most);
        DUE.is("set(" + what + ", 0)", x.set(what, 0), most);
        DUE.is("count(" + (4 + what) + "), least", x.count(4 + what), 0);
    }

    private static void months() {
        DUE.sentence("It has 12 months, numbered from 0, each with a weight, in thousandths:"
                + " 170, 150, 130, 80, 40, 13, 13, 14, 30, 80, 120, 160.");
        int[] weights = {170, 150, 130, 80, 40, 13, 13, 14, 30, 80, 120, 160};
        int ahead = 0;
        for (int month = 1; month < 12; month++) {
            ahead += weights[month - 1];
            DUE.is("move(0, " + month + ")", Houses.withFlats(10).move(0, month), ahead);
        }
        DUE.is("the weights of all months", ahead + weights[11], 1000);
        HeatBills x = Houses.withFlats(10);
        int[] outside = {0, -1, 12, 13, MIN, MAX};
        for (int month : outside) {
            DUE.is("move(0, " + month + ")", x.move(0, month), -2);
        }
        DUE.is("count(12)", x.count(12), 0);
    }

    private static void newObject() {
        DUE.sentence("Creates a house without flats, in the year 0.");
        HeatBills x = new HeatBills();
        DUE.is("count(0)", x.count(0), 0);
        DUE.is("count(1)", x.count(1), 0);
        DUE.is("flat(0, 0)", x.flat(0, 0), -1);
        DUE.is("count(9), a cost without flats", x.set(0, 99999) + x.count(9), 0);
        DUE.is("count(8)", x.count(8), 0);
        DUE.is("count(13), set is an act without flats too", x.count(13), 1);
    }

    private static void addFlat() {
        DUE.sentence("Returns its number; BAD_VALUE; FULL if there are 8; NOT_POSSIBLE if a year was closed.");
        HeatBills x = Houses.withFlats(10, 10, 10, 10, 10, 10, 10);
        x.keep();
        x.close();
        DUE.is("addFlat(1), a year was closed", x.addFlat(1), -4);
        DUE.is("addFlat(0), bad before not possible", x.addFlat(0), -2);
        x.restore();
        DUE.is("addFlat(1), no year was closed", x.addFlat(1), 7);
        DUE.is("addFlat(201), bad before full", x.addFlat(201), -2);
        DUE.is("addFlat(200), full", x.addFlat(200), -3);
        x.close();
        DUE.is("addFlat(200), full before not possible", x.addFlat(200), -3);
        DUE.is("addFlat(201), bad before both", x.addFlat(201), -2);
    }

    private static void addDevice() {
        DUE.sentence("Returns its number; UNKNOWN; BAD_VALUE; FULL if there are 20.");
        HeatBills x = Houses.withFlats(10);
        int[] noFlats = {-1, 1, 8, MIN, MAX};
        for (int flat : noFlats) {
            DUE.is("addDevice(" + flat + ", 1)", x.addDevice(flat, 1), -1);
            DUE.is("addDevice(" + flat + ", 0), unknown before bad", x.addDevice(flat, 0), -1);
        }
        for (int device = 0; device < 20; device++) {
            DUE.is("addDevice(0, 20)", x.addDevice(0, 20), device);
        }
        DUE.is("addDevice(0, 20), full", x.addDevice(0, 20), -3);
        DUE.is("addDevice(0, 0), bad before full", x.addDevice(0, 0), -2);
        DUE.is("addDevice(0, 21), bad before full", x.addDevice(0, 21), -2);
        DUE.is("addDevice(1, 1), unknown before full", x.addDevice(1, 1), -1);
        HeatBills y = Houses.withFlats(10);
        y.close();
        y.close();
        y.close();
        y.close();
        DUE.is("addDevice(0, 1), all years are closed", y.addDevice(0, 1), 0);
    }

    private static void set() {
        DUE.sentence("Returns the previous one; BAD_VALUE; NONE if it is so already.");
        HeatBills x = new HeatBills();
        int[] outside = {-1, 3, MIN, MAX};
        for (int what : outside) {
            DUE.is("set(" + what + ", 0)", x.set(what, 0), -2);
        }
        DUE.is("set(0, 0), as at first", x.set(0, 0), -5);
        DUE.is("set(1, 40), as at first", x.set(1, 40), -5);
        DUE.is("set(2, 0), as at first", x.set(2, 0), -5);
        DUE.is("set(0, 7)", x.set(0, 7), 0);
        DUE.is("set(0, 7) again", x.set(0, 7), -5);
        DUE.is("set(0, 8)", x.set(0, 8), 7);
        DUE.is("set(0, 0), a previous one of 8", x.set(0, 0), 8);
        DUE.is("count(5), the others stay", x.count(5), 40);
        DUE.is("count(6), the others stay", x.count(6), 0);
    }

    private static void read() {
        DUE.sentence("Returns the units of the device then; UNKNOWN; BAD_VALUE;"
                + " NOT_POSSIBLE if it is less than that at the beginning; NONE if it is so already.");
        HeatBills x = Houses.withFlats(10);
        int[] noDevices = {-1, 1, 20, MIN, MAX};
        DUE.is("read(0, 0), no device", x.read(0, 0), -1);
        x.addDevice(0, 20);
        for (int device : noDevices) {
            DUE.is("read(" + device + ", 1)", x.read(device, 1), -1);
            DUE.is("read(" + device + ", -1), unknown before bad", x.read(device, -1), -1);
        }
        DUE.is("read(0, 0), as at first", x.read(0, 0), -5);
        DUE.is("read(0, 9999)", x.read(0, 9999), 199980);
        DUE.is("read(0, 9999) again", x.read(0, 9999), -5);
        DUE.is("read(0, 1)", x.read(0, 1), 20);
        x.close();
        DUE.is("read(0, -1), bad before not possible", x.read(0, -1), -2);
        DUE.is("read(0, 0), less than at the beginning", x.read(0, 0), -4);
        DUE.is("read(0, 1), as it is", x.read(0, 1), -5);
        DUE.is("read(0, 2)", x.read(0, 2), 20);
        x.mark(0, true);
        DUE.is("read(0, 2) of a faulty one, as it is", x.read(0, 2), -5);
        DUE.is("read(0, 0) of a faulty one", x.read(0, 0), -4);
        DUE.is("read(0, 5) of a faulty one, none is sound", x.read(0, 5), 0);
        x.set(2, 1);
        DUE.is("read(0, 6) of a faulty one, as the year before", x.read(0, 6), 20);
    }

    private static void mark() {
        DUE.sentence("Returns how many devices are faulty then; UNKNOWN; NONE if it is so already.");
        HeatBills x = Houses.withFlats(10);
        DUE.is("mark(0, true), no device", x.mark(0, true), -1);
        DUE.is("mark(0, false), unknown before none", x.mark(0, false), -1);
        for (int device = 0; device < 20; device++) {
            x.addDevice(0, 1);
        }
        int[] noDevices = {-1, 20, MIN, MAX};
        for (int device : noDevices) {
            DUE.is("mark(" + device + ", true)", x.mark(device, true), -1);
            DUE.is("mark(" + device + ", false)", x.mark(device, false), -1);
        }
        for (int device = 0; device < 20; device++) {
            DUE.is("mark, sound already", x.mark(device, false), -5);
            DUE.is("mark, faulty", x.mark(device, true), device + 1);
            DUE.is("mark, faulty already", x.mark(device, true), -5);
        }
        for (int device = 19; device >= 0; device--) {
            DUE.is("mark, sound", x.mark(device, false), device);
        }
        DUE.is("count(3)", x.count(3), 0);
    }
}
