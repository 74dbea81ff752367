/** A house with all that fits: 8 flats, 20 devices, 4 closed years, a text of 60 characters, a history of 4. */
final class Brimful {
    private Brimful() {
    }

    static HeatBills house() {
        HeatBills x = new HeatBills();
        for (int flat = 0; flat < 8; flat++) {
            x.addFlat(200 - flat);
        }
        for (int device = 0; device < 20; device++) {
            x.addDevice(device % 8, 20 - device);
            x.read(device, 100 + device);
        }
        for (int year = 0; year < 4; year++) {
            x.set(0, 90000 + year);
            x.move(year, 11 - year);
            x.close();
            x.read(year, 1000 * (year + 1));
        }
        x.keep();
        x.correct(0, 0, 7);
        x.set(0, 99999);
        x.move(7, 6);
        x.between(7, 999);
        Houses.typeText(x, "0=9999;".repeat(8) + "19=?");
        return x;
    }
}
