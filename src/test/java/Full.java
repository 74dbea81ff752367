/** A house with nearly all that fits, and one of each act that it still allows. */
final class Full {
    static final int ACTS = 11;

    private Full() {
    }

    /** 7 flats, 19 devices, 3 closed years of which one is corrected, moves, a text, a snapshot, a history of 4. */
    static HeatBills house() {
        HeatBills x = new HeatBills();
        for (int flat = 0; flat < 7; flat++) {
            x.addFlat(10 * flat + 7);
        }
        for (int device = 0; device < 18; device++) {
            x.addDevice(device % 7, device + 1);
            x.read(device, 5 * device);
        }
        x.set(0, 7777);
        x.move(2, 3);
        x.mark(4, true);
        x.close();
        x.set(2, 1);
        x.addDevice(6, 20);
        x.read(18, 99);
        x.read(0, 50);
        x.set(0, 9999);
        x.move(2, 5);
        x.between(2, 250);
        x.move(5, 6);
        x.close();
        x.correct(1, 3, 1234);
        x.keep();
        x.mark(18, true);
        x.read(1, 77);
        x.set(0, 4321);
        x.close();
        x.set(1, 55);
        x.read(3, 100);
        x.set(0, 888);
        x.move(1, 4);
        x.between(1, 444);
        Houses.typeText(x, "2=500;3=?;4=300");
        x.move(3, 4);
        return x;
    }

    static int act(HeatBills x, int number) {
        switch (number) {
            case 0: return x.addDevice(0, 9);
            case 1: return x.set(0, 99999);
            case 2: return x.set(1, 100);
            case 3: return x.set(2, 0);
            case 4: return x.read(0, 9999);
            case 5: return x.mark(0, true);
            case 6: return x.readAll();
            case 7: return x.move(0, 11);
            case 8: return x.between(1, 1000);
            case 9: return x.correct(0, 0, 199980);
            default: return x.close();
        }
    }
}
