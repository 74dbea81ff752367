/** Promises 2, 3, 17 and 18: flats and devices, and what is told of them. */
public final class FlatsAndDevicesTest {
    private static final Due DUE = new Due("FlatsAndDevicesTest");

    public static void main(String[] args) {
        addFlat();
        addDevice();
        flat();
        device();
        DUE.end();
    }

    private static void addFlat() {
        HeatBills x = new HeatBills();
        DUE.is("addFlat(0)", x.addFlat(0), -2);
        DUE.is("addFlat(-1)", x.addFlat(-1), -2);
        DUE.is("addFlat(201)", x.addFlat(201), -2);
        DUE.is("addFlat(MAX)", x.addFlat(Integer.MAX_VALUE), -2);
        DUE.is("addFlat(MIN)", x.addFlat(Integer.MIN_VALUE), -2);
        DUE.is("count(13) after errors", x.count(13), 0);
        for (int i = 0; i < 8; i++) {
            DUE.is("addFlat", x.addFlat(i == 0 ? 1 : 200), i);
        }
        DUE.is("addFlat(200), the ninth", x.addFlat(200), -3);
        DUE.is("addFlat(0), bad before full", x.addFlat(0), -2);
        DUE.is("flat(0, 0)", x.flat(0, 0), 1);
        DUE.is("flat(7, 0)", x.flat(7, 0), 200);
        DUE.is("count(1)", x.count(1), 8);
        DUE.is("close()", x.close(), 0);
        DUE.is("addFlat(1), full before closed", x.addFlat(1), -3);

        HeatBills y = Houses.withFlats(10);
        y.close();
        DUE.is("addFlat(10) after a close", y.addFlat(10), -4);
        DUE.is("addFlat(201) after a close", y.addFlat(201), -2);
        DUE.is("undo() of the close", y.undo(), 1);
        DUE.is("addFlat(10) after that", y.addFlat(10), 1);
    }

    private static void addDevice() {
        HeatBills x = new HeatBills();
        DUE.is("addDevice(0, 1), no flat", x.addDevice(0, 1), -1);
        x.addFlat(20);
        x.addFlat(30);
        DUE.is("addDevice(-1, 0), unknown before bad", x.addDevice(-1, 0), -1);
        DUE.is("addDevice(2, 1)", x.addDevice(2, 1), -1);
        DUE.is("addDevice(0, 0)", x.addDevice(0, 0), -2);
        DUE.is("addDevice(0, 21)", x.addDevice(0, 21), -2);
        DUE.is("count(13)", x.count(13), 2);
        for (int i = 0; i < 20; i++) {
            DUE.is("addDevice", x.addDevice(i % 2, i + 1), i);
        }
        DUE.is("addDevice(0, 1), the 21st", x.addDevice(0, 1), -3);
        DUE.is("addDevice(0, 21), bad before full", x.addDevice(0, 21), -2);
        DUE.is("addDevice(2, 1), unknown before full", x.addDevice(2, 1), -1);
        DUE.is("count(2)", x.count(2), 20);
        DUE.is("device(19, 1)", x.device(19, 1), 20);
        DUE.is("flat(0, 1)", x.flat(0, 1), 0x55555);
        DUE.is("flat(1, 1)", x.flat(1, 1), 0xAAAAA);

        HeatBills y = Houses.withFlats(10);
        y.close();
        DUE.is("addDevice(0, 1) after a close", y.addDevice(0, 1), 0);
    }

    private static void flat() {
        HeatBills x = Houses.ofFourDevices();
        x.set(0, 1001);
        x.read(0, 10);
        x.read(1, 10);
        x.read(3, 3);
        x.mark(2, true);
        int[] dueOfFlat1 = {30, 6, 36, 120, 305, 425, -5, -5};
        for (int what = 0; what < 8; what++) {
            DUE.is("flat(1, " + what + ")", x.flat(1, what), dueOfFlat1[what]);
        }
        x.move(1, 11);
        DUE.is("flat(1, 6)", x.flat(1, 6), 11);
        DUE.is("flat(1, 7) without a reading", x.flat(1, 7), -5);
        x.between(1, 0);
        DUE.is("flat(1, 7)", x.flat(1, 7), 0);
        DUE.is("flat(0, 6), another flat", x.flat(0, 6), -5);
        DUE.is("flat(1, -1)", x.flat(1, -1), -2);
        DUE.is("flat(1, 8)", x.flat(1, 8), -2);
        DUE.is("flat(3, 8), unknown before bad", x.flat(3, 8), -1);
        DUE.is("flat(-1, 0)", x.flat(-1, 0), -1);
        DUE.is("flat(MIN, MIN)", x.flat(Integer.MIN_VALUE, Integer.MIN_VALUE), -1);
    }

    private static void device() {
        HeatBills x = Houses.ofFourDevices();
        x.read(1, 9);
        x.close();
        x.read(1, 11);
        x.mark(1, true);
        x.read(0, 4);
        int[] dueOfDevice1 = {1, 3, 9, 11, 1, 3};
        for (int what = 0; what < 6; what++) {
            DUE.is("device(1, " + what + ")", x.device(1, what), dueOfDevice1[what]);
        }
        DUE.is("device(0, 4)", x.device(0, 4), 0);
        DUE.is("device(0, 5)", x.device(0, 5), 8);
        DUE.is("device(0, 6)", x.device(0, 6), -2);
        DUE.is("device(0, -1)", x.device(0, -1), -2);
        DUE.is("device(4, 6), unknown before bad", x.device(4, 6), -1);
        DUE.is("device(-1, 0)", x.device(-1, 0), -1);
    }
}
