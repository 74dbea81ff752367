import java.util.Arrays;
import java.util.function.Supplier;
import java.util.function.ToIntFunction;

/** ERRORS: a call that is refused changes nothing, and the order of the checks. */
public final class ErrorsSentencesTest {
    private static final Due DUE = new Due("ErrorsSentencesTest");
    private static final int UNDOS = 4;

    public static void main(String[] args) {
        inAnEmptyHouse();
        errorsInAHouse();
        nonesInAHouse();
        inABrimfulHouse();
        textsWithFaults();
        orderOfTheChecks();
        noneOnlyIfNoErrorApplies();
        DUE.end();
    }

    /** A house that got the refused call tells the same as one that did not, now and behind undo() and restore(). */
    private static void refuses(Supplier<HeatBills> house, String call, ToIntFunction<HeatBills> refused, int want) {
        for (int undos = 0; undos <= UNDOS + 1; undos++) {
            for (int slice = 0; slice < Questions.slices(); slice++) {
                HeatBills x = house.get();
                DUE.is(call, refused.applyAsInt(x), want);
                HeatBills other = house.get();
                DUE.is("count(13) after " + call, x.count(13), other.count(13));
                DUE.is("count(14) after " + call, x.count(14), other.count(14));
                goBack(x, undos);
                goBack(other, undos);
                DUE.holds("all answers after " + call + " and " + undos + " of undo()",
                        Arrays.equals(Questions.ask(x, slice), Questions.ask(other, slice)));
            }
        }
    }

    /** One more than the history can hold stands for restore(). */
    private static void goBack(HeatBills x, int undos) {
        if (undos > UNDOS) {
            x.restore();
            return;
        }
        for (int i = 0; i < undos; i++) {
            x.undo();
        }
    }

    private static HeatBills emptyHouse() {
        HeatBills x = new HeatBills();
        x.set(0, 77);
        Houses.typeText(x, "0=1");
        return x;
    }

    private static void inAnEmptyHouse() {
        DUE.sentence("A call that returns an error or NONE changes nothing.");
        Supplier<HeatBills> house = ErrorsSentencesTest::emptyHouse;
        refuses(house, "addFlat(0)", x -> x.addFlat(0), -2);
        refuses(house, "addFlat(201)", x -> x.addFlat(201), -2);
        refuses(house, "addDevice(0, 1)", x -> x.addDevice(0, 1), -1);
        refuses(house, "set(3, 0)", x -> x.set(3, 0), -2);
        refuses(house, "set(0, 100000)", x -> x.set(0, 100000), -2);
        refuses(house, "set(0, 77)", x -> x.set(0, 77), -5);
        refuses(house, "read(0, 1)", x -> x.read(0, 1), -1);
        refuses(house, "mark(0, true)", x -> x.mark(0, true), -1);
        refuses(house, "readAll()", x -> x.readAll(), -1);
        refuses(house, "move(0, 1)", x -> x.move(0, 1), -1);
        refuses(house, "between(0, 1)", x -> x.between(0, 1), -1);
        refuses(house, "close()", x -> x.close(), -4);
        refuses(house, "correct(0, 0, 1)", x -> x.correct(0, 0, 1), -1);
        refuses(house, "restore()", x -> x.restore(), -5);
        refuses(HeatBills::new, "undo()", x -> x.undo(), -5);
        refuses(HeatBills::new, "readAll()", x -> x.readAll(), -100);
    }

    private static void errorsInAHouse() {
        DUE.sentence("A call that returns an error");
        Supplier<HeatBills> house = Full::house;
        refuses(house, "addFlat(1)", x -> x.addFlat(1), -4);
        refuses(house, "addDevice(7, 1)", x -> x.addDevice(7, 1), -1);
        refuses(house, "addDevice(0, 21)", x -> x.addDevice(0, 21), -2);
        refuses(house, "set(-1, 1)", x -> x.set(-1, 1), -2);
        refuses(house, "set(1, 101)", x -> x.set(1, 101), -2);
        refuses(house, "set(2, 2)", x -> x.set(2, 2), -2);
        refuses(house, "read(19, 1)", x -> x.read(19, 1), -1);
        refuses(house, "read(0, 10000)", x -> x.read(0, 10000), -2);
        refuses(house, "read(0, 49)", x -> x.read(0, 49), -4);
        refuses(house, "mark(19, true)", x -> x.mark(19, true), -1);
        refuses(house, "move(7, 1)", x -> x.move(7, 1), -1);
        refuses(house, "move(0, 12)", x -> x.move(0, 12), -2);
        refuses(house, "move(1, 5)", x -> x.move(1, 5), -4);
        refuses(house, "between(7, 1)", x -> x.between(7, 1), -1);
        refuses(house, "between(3, 1001)", x -> x.between(3, 1001), -2);
        refuses(house, "between(0, 5)", x -> x.between(0, 5), -4);
        refuses(house, "correct(3, 0, 0)", x -> x.correct(3, 0, 0), -1);
        refuses(house, "correct(0, 18, 1)", x -> x.correct(0, 18, 1), -1);
        refuses(house, "correct(0, 0, 199981)", x -> x.correct(0, 0, 199981), -2);
        refuses(house, "billIf(0, 101)", x -> x.billIf(0, 101), -2);
        refuses(house, "bestShare(7)", x -> x.bestShare(7), -1);
        refuses(house, "greatest(-1)", x -> x.greatest(-1), -2);
    }

    private static void nonesInAHouse() {
        DUE.sentence("or NONE changes nothing.");
        Supplier<HeatBills> house = Full::house;
        refuses(house, "set(0, 888)", x -> x.set(0, 888), -5);
        refuses(house, "set(1, 55)", x -> x.set(1, 55), -5);
        refuses(house, "set(2, 1)", x -> x.set(2, 1), -5);
        refuses(house, "read(3, 100)", x -> x.read(3, 100), -5);
        refuses(house, "mark(4, true)", x -> x.mark(4, true), -5);
        refuses(house, "mark(0, false)", x -> x.mark(0, false), -5);
        refuses(house, "between(1, 444)", x -> x.between(1, 444), -5);
        refuses(house, "correct(1, 3, 1234)", x -> x.correct(1, 3, 1234), -5);
        refuses(house, "greatest(7)", x -> x.greatest(7), -5);
        refuses(house, "flat(0, 6)", x -> x.flat(0, 6), -5);
        refuses(() -> {
            HeatBills x = Full.house();
            goBack(x, UNDOS);
            return x;
        }, "undo()", x -> x.undo(), -5);
    }

    private static void inABrimfulHouse() {
        DUE.sentence("`FULL = -3`: There is no more room.");
        Supplier<HeatBills> house = Brimful::house;
        refuses(house, "addFlat(1)", x -> x.addFlat(1), -3);
        refuses(house, "addDevice(0, 1)", x -> x.addDevice(0, 1), -3);
        refuses(house, "close()", x -> x.close(), -3);
        refuses(house, "type('0')", x -> x.type('0'), -3);
        HeatBills x = Brimful.house();
        DUE.is("count(1)", x.count(1), 8);
        DUE.is("count(2)", x.count(2), 20);
        DUE.is("count(0)", x.count(0), 4);
        DUE.is("count(13)", x.count(13), 4);
        DUE.is("count(14)", x.count(14), 60);
        DUE.is("readAll(), what is full can still be used", x.readAll(), 9);
    }

    private static HeatBills withText(String text) {
        HeatBills x = Full.house();
        Houses.typeText(x, text);
        return x;
    }

    private static void textsWithFaults() {
        DUE.sentence("-100 minus the fault of the text if it has one (which is an error)");
        refuses(() -> withText(""), "readAll()", x -> x.readAll(), -100);
        refuses(() -> withText("2=500;"), "readAll()", x -> x.readAll(), -106);
        refuses(() -> withText("2=500;3=?;20=1"), "readAll()", x -> x.readAll(), -111);
        refuses(() -> withText("2=500;3=?;19=1"), "readAll()", x -> x.readAll(), -1);
        refuses(() -> withText("2=500;3=?;0=49"), "readAll()", x -> x.readAll(), -4);
    }

    private static void orderOfTheChecks() {
        DUE.sentence("Where several errors can apply, the order of the @return line is the order of the checks.");
        HeatBills x = Brimful.house();
        DUE.is("addFlat(0), bad, full, not possible", x.addFlat(0), -2);
        DUE.is("addFlat(1), full, not possible", x.addFlat(1), -3);
        DUE.is("addDevice(8, 0), unknown, bad, full", x.addDevice(8, 0), -1);
        DUE.is("addDevice(0, 0), bad, full", x.addDevice(0, 0), -2);
        DUE.is("read(20, -1), unknown, bad", x.read(20, -1), -1);
        DUE.is("read(0, -1), bad, not possible", x.read(0, -1), -2);
        DUE.is("move(8, 0), unknown, bad", x.move(8, 0), -1);
        DUE.is("move(7, 0), bad, not possible", x.move(7, 0), -2);
        DUE.is("between(8, -1), unknown, bad", x.between(8, -1), -1);
        DUE.is("between(0, -1), bad, not possible", x.between(0, -1), -2);
        DUE.is("correct(4, 0, -1), unknown, bad", x.correct(4, 0, -1), -1);
        DUE.is("correct(0, 20, -1), unknown, bad", x.correct(0, 20, -1), -1);
        DUE.is("flat(8, 8), unknown, bad", x.flat(8, 8), -1);
        DUE.is("device(20, 6), unknown, bad", x.device(20, 6), -1);
        DUE.is("billIf(8, 101), unknown, bad", x.billIf(8, 101), -1);
        HeatBills y = Full.house();
        Houses.typeText(y, "0=0;19=1;");
        DUE.is("readAll(), fault, unknown, not possible", y.readAll(), -109);
        Houses.typeText(y, "0=0;19=1");
        DUE.is("readAll(), unknown, not possible", y.readAll(), -1);
    }

    private static void noneOnlyIfNoErrorApplies() {
        DUE.sentence("NONE is no error; it is returned only if no error applies.");
        HeatBills x = Full.house();
        DUE.is("mark(19, false)", x.mark(19, false), -1);
        DUE.is("mark(-1, false)", x.mark(-1, false), -1);
        DUE.is("read(19, 0)", x.read(19, 0), -1);
        DUE.is("between(0, -5), as if none were told", x.between(0, -5), -2);
        DUE.is("correct(2, 19, 0)", x.correct(2, 19, 0), -1);
        DUE.is("correct(3, 0, 0), open", x.correct(3, 0, 0), -1);
        DUE.is("greatest(-1)", x.greatest(-1), -2);
        DUE.is("greatest(7)", x.greatest(7), -5);
        DUE.is("flat(7, 6)", x.flat(7, 6), -1);
        DUE.is("flat(0, 8)", x.flat(0, 8), -2);
        DUE.is("flat(0, 7)", x.flat(0, 7), -5);
    }
}
