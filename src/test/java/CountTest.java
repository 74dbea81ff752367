/** Promise 25. */
public final class CountTest {
    private static final Due DUE = new Due("CountTest");

    public static void main(String[] args) {
        HeatBills x = Houses.ofFourDevices();
        x.set(0, 1001);
        x.set(1, 30);
        x.set(2, 1);
        x.read(0, 10);
        x.read(1, 10);
        x.mark(2, true);
        x.mark(3, true);
        x.move(0, 3);
        x.move(2, 3);
        Houses.typeText(x, "abc");
        // 20, 30, and by 50 / 5 then 10 and 50
        are(x, 0, 3, 4, 2, 1001, 30, 1, 100, 110, 1001, 0, 0, 2, 4, 3);
        x.close();
        x.correct(0, 0, 21);
        x.set(0, 500);
        x.undo();
        x.set(0, 600);
        are(x, 1, 3, 4, 2, 600, 30, 1, 100, 60, 600, 1001, 1, 0, 4, 3);
        x.close();
        DUE.is("count(10), of two years", x.count(10), 1601);
        DUE.is("count(-1)", x.count(-1), -2);
        DUE.is("count(15)", x.count(15), -2);
        DUE.is("count(MIN)", x.count(Integer.MIN_VALUE), -2);
        DUE.is("count(MAX)", x.count(Integer.MAX_VALUE), -2);

        x.undo();
        x.set(0, 650);
        DUE.is("count(9), asked at once", x.count(9), 650);
        x.read(0, 11);
        DUE.is("count(8), asked at once", x.count(8), 62);

        HeatBills empty = new HeatBills();
        empty.set(0, 700);
        DUE.is("count(9), no flats", empty.count(9), 0);
        DUE.end();
    }

    private static void are(HeatBills x, int... want) {
        for (int what = 0; what < want.length; what++) {
            DUE.is("count(" + what + ")", x.count(what), want[what]);
        }
    }
}
