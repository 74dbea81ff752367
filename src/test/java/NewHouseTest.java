/** Promise 1, and the constants. */
public final class NewHouseTest {
    public static void main(String[] args) {
        Due due = new Due("NewHouseTest");
        due.is("UNKNOWN", HeatBills.UNKNOWN, -1);
        due.is("BAD_VALUE", HeatBills.BAD_VALUE, -2);
        due.is("FULL", HeatBills.FULL, -3);
        due.is("NOT_POSSIBLE", HeatBills.NOT_POSSIBLE, -4);
        due.is("NONE", HeatBills.NONE, -5);

        HeatBills x = new HeatBills();
        for (int what = 0; what < 15; what++) {
            due.is("count(" + what + ")", x.count(what), what == 5 ? 40 : 0);
        }
        due.is("flat(0, 0)", x.flat(0, 0), -1);
        due.is("device(0, 0)", x.device(0, 0), -1);
        due.is("draft(0, false)", x.draft(0, false), -1);
        due.is("bill(0, 0, false, false)", x.bill(0, 0, false, false), -1);
        due.is("units(0, 0)", x.units(0, 0), -1);
        due.is("greatest(0)", x.greatest(0), -5);
        due.is("billIf(0, 0)", x.billIf(0, 0), -1);
        due.is("bestShare(0)", x.bestShare(0), -1);
        due.is("close()", x.close(), -4);
        due.is("undo()", x.undo(), -5);
        due.is("restore()", x.restore(), -5);
        due.is("clearText()", x.clearText(), 0);
        due.is("readAll()", x.readAll(), -100);
        due.is("keep()", x.keep(), 0);

        HeatBills other = new HeatBills();
        due.is("addFlat(3)", x.addFlat(3), 0);
        due.is("count(1) of another object", other.count(1), 0);
        due.end();
    }
}
