/** Houses that several tests begin with. */
final class Houses {
    private Houses() {
    }

    static HeatBills withFlats(int... areas) {
        HeatBills x = new HeatBills();
        for (int area : areas) {
            x.addFlat(area);
        }
        return x;
    }

    /** Flats of 50, 30 and 20; devices 0 (flat 0), 1 and 2 (flat 1), 3 (flat 2). */
    static HeatBills ofFourDevices() {
        HeatBills x = withFlats(50, 30, 20);
        x.addDevice(0, 2);
        x.addDevice(1, 3);
        x.addDevice(1, 1);
        x.addDevice(2, 5);
        return x;
    }

    static void typeText(HeatBills x, String text) {
        x.clearText();
        for (int i = 0; i < text.length(); i++) {
            x.type(text.charAt(i));
        }
    }

    static int readText(HeatBills x, String text) {
        typeText(x, text);
        return x.readAll();
    }
}
