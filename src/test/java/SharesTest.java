/** Promises 22, 23 and 24, and the sharing to the coin that all bills rest on. */
public final class SharesTest {
    private static final Due DUE = new Due("SharesTest");

    public static void main(String[] args) {
        coinsThatAreLeft();
        noUnits();
        greatest();
        billIf();
        bestShare();
        DUE.end();
    }

    private static void areBills(HeatBills x, int what, int... want) {
        for (int flat = 0; flat < want.length; flat++) {
            DUE.is("flat(" + flat + ", " + what + ")", x.flat(flat, what), want[flat]);
        }
    }

    private static void coinsThatAreLeft() {
        HeatBills x = Houses.withFlats(7, 7, 7);
        x.set(1, 100);
        x.set(0, 100);
        areBills(x, 5, 34, 33, 33);
        x.set(0, 101);
        areBills(x, 5, 34, 34, 33);
        HeatBills y = Houses.withFlats(1, 2, 4);
        y.set(1, 100);
        y.set(0, 10);
        // 10/7, 20/7, 40/7: two coins are left, the remainders are 3, 6 and 5
        areBills(y, 3, 1, 3, 6);
        HeatBills z = Houses.withFlats(200, 200, 200, 200, 200, 200, 200, 200);
        z.set(1, 100);
        z.set(0, 7);
        areBills(z, 3, 1, 1, 1, 1, 1, 1, 1, 0);
        HeatBills w = Houses.withFlats(1, 1);
        w.set(0, 99);
        // the base cost is 39.6, rounded down
        areBills(w, 3, 20, 19);
        areBills(w, 4, 30, 30);
        areBills(w, 5, 50, 49);
    }

    private static void noUnits() {
        HeatBills x = Houses.withFlats(1, 3);
        x.set(0, 100);
        x.set(1, 0);
        x.addDevice(1, 3);
        areBills(x, 4, 25, 75);
        x.read(0, 1);
        areBills(x, 4, 0, 100);
        areBills(x, 2, 0, 3);
        x.mark(0, true);
        areBills(x, 4, 25, 75);
    }

    private static void greatest() {
        HeatBills x = Houses.withFlats(10, 10, 10, 10);
        for (int flat = 0; flat < 4; flat++) {
            x.addDevice(flat, 1);
        }
        x.set(0, 100);
        x.read(1, 30);
        x.read(3, 30);
        x.read(2, 40);
        int[] want = {2, 1, 3, 0};
        for (int rank = 0; rank < 4; rank++) {
            DUE.is("greatest(" + rank + ")", x.greatest(rank), want[rank]);
        }
        DUE.is("greatest(4)", x.greatest(4), -5);
        DUE.is("greatest(MAX)", x.greatest(Integer.MAX_VALUE), -5);
        DUE.is("greatest(-1)", x.greatest(-1), -2);
        DUE.is("greatest(MIN)", x.greatest(Integer.MIN_VALUE), -2);
        x.set(1, 100);
        for (int rank = 0; rank < 4; rank++) {
            DUE.is("greatest(" + rank + "), all the same", x.greatest(rank), rank);
        }
        // by the coins, not by the units: one coin, and the flat with the most units gets it
        x.set(1, 0);
        x.set(0, 1);
        DUE.is("greatest(1), no coins", x.greatest(1), 0);
    }

    private static void billIf() {
        HeatBills x = Houses.ofFourDevices();
        x.set(0, 1001);
        x.read(0, 10);
        x.read(1, 10);
        x.read(3, 3);
        x.mark(2, true);
        x.move(0, 6);
        DUE.is("billIf(0, 100)", x.billIf(0, 100), 501);
        DUE.is("billIf(0, 0)", x.billIf(0, 0), 282);
        DUE.is("billIf(0, 40)", x.billIf(0, 40), x.flat(0, 5));
        DUE.is("count(5)", x.count(5), 40);
        DUE.is("billIf(3, 101), unknown before bad", x.billIf(3, 101), -1);
        DUE.is("billIf(-1, 0)", x.billIf(-1, 0), -1);
        DUE.is("billIf(0, -1)", x.billIf(0, -1), -2);
        DUE.is("billIf(0, 101)", x.billIf(0, 101), -2);
    }

    private static void bestShare() {
        HeatBills x = Houses.ofFourDevices();
        x.set(0, 1001);
        x.read(0, 10);
        x.read(1, 10);
        x.read(3, 3);
        x.mark(2, true);
        DUE.is("bestShare(0)", x.bestShare(0), 0);
        DUE.is("bestShare(2), the least of several", x.bestShare(2), 97);
        DUE.is("bestShare(3)", x.bestShare(3), -1);
        DUE.is("bestShare(-1)", x.bestShare(-1), -1);
        DUE.is("count(5)", x.count(5), 40);
        for (int share = 0; share < 97; share++) {
            DUE.holds("billIf(2, " + share + ") is more", x.billIf(2, share) > x.billIf(2, 97));
        }
        HeatBills y = Houses.withFlats(10, 10);
        y.addDevice(0, 1);
        y.set(0, 99999);
        y.read(0, 1);
        DUE.is("bestShare(0), all is base", y.bestShare(0), 100);
        DUE.is("bestShare(1), nothing is base", y.bestShare(1), 0);
        y.set(0, 0);
        DUE.is("bestShare(0), no cost", y.bestShare(0), 0);
        // with the share 1, flat 0 gets a coin of the base cost and a coin more of the other 99
        HeatBills z = Houses.withFlats(1, 1);
        z.set(0, 100);
        DUE.is("billIf(1, 0)", z.billIf(1, 0), 50);
        DUE.is("billIf(1, 1)", z.billIf(1, 1), 49);
        DUE.is("bestShare(0)", z.bestShare(0), 0);
        DUE.is("bestShare(1), between others", z.bestShare(1), 1);
    }
}
