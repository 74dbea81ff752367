import java.util.Arrays;
import java.util.function.ToIntFunction;

/** Promises 14, 15 and 16: undo, the snapshot, and which calls are acts. */
public final class HistoryTest {
    private static final Due DUE = new Due("HistoryTest");

    public static void main(String[] args) {
        undo();
        keepAndRestore();
        acts();
        noActs();
        everythingComesBack();
        otherFlatsComeBack();
        fewerFlatsThanBefore();
        DUE.end();
    }

    private static void undo() {
        HeatBills x = new HeatBills();
        DUE.is("undo()", x.undo(), -5);
        for (int i = 1; i <= 6; i++) {
            x.set(0, i);
            DUE.is("count(13)", x.count(13), Math.min(i, 4));
        }
        for (int left = 3; left >= 0; left--) {
            DUE.is("undo()", x.undo(), left);
            DUE.is("count(4)", x.count(4), left + 2);
        }
        DUE.is("undo(), none left", x.undo(), -5);
        DUE.is("count(4)", x.count(4), 2);
        x.set(0, 50);
        x.set(0, 60);
        DUE.is("undo()", x.undo(), 1);
        DUE.is("count(4)", x.count(4), 50);
        x.set(0, 70);
        DUE.is("undo()", x.undo(), 1);
        DUE.is("undo()", x.undo(), 0);
        DUE.is("count(4)", x.count(4), 2);
    }

    private static void keepAndRestore() {
        HeatBills x = Houses.withFlats(10);
        DUE.is("restore(), no snapshot", x.restore(), -5);
        DUE.is("count(13)", x.count(13), 1);
        x.close();
        DUE.is("keep()", x.keep(), 1);
        x.set(0, 9);
        x.close();
        DUE.is("count(0)", x.count(0), 2);
        DUE.is("restore()", x.restore(), 1);
        DUE.is("count(4)", x.count(4), 0);
        DUE.is("restore() again", x.restore(), 1);
        DUE.is("count(13), both are acts", x.count(13), 4);
        x.undo();
        DUE.is("undo() of the restore", x.undo(), 2);
        DUE.is("count(0)", x.count(0), 2);
        DUE.is("bill(1, 0, f, f)", x.bill(1, 0, false, false), 9);
        DUE.is("restore(), the snapshot stays", x.restore(), 1);
        x.set(0, 33);
        DUE.is("keep(), in place of the former", x.keep(), 1);
        x.set(0, 44);
        x.restore();
        DUE.is("count(4)", x.count(4), 33);
        x.undo();
        x.undo();
        x.undo();
        x.restore();
        DUE.is("count(4), the snapshot isn't undone", x.count(4), 33);
    }

    private static void acts() {
        isAct("addFlat", new HeatBills(), x -> x.addFlat(20));
        isAct("addDevice", Houses.withFlats(10), x -> x.addDevice(0, 2));
        isAct("set", new HeatBills(), x -> x.set(0, 100));
        isAct("read", withDevice(), x -> x.read(0, 5));
        isAct("mark", withDevice(), x -> x.mark(0, true));
        isAct("readAll", withDevice(), x -> Houses.readText(x, "0=6"));
        isAct("move", Houses.withFlats(10), x -> x.move(0, 5));
        HeatBills moved = Houses.withFlats(10);
        moved.move(0, 5);
        isAct("between", moved, x -> x.between(0, 5));
        isAct("between, another part", moved, x -> x.between(0, 6));
        isAct("close", Houses.withFlats(10), x -> x.close());
        HeatBills closed = withDevice();
        closed.close();
        isAct("correct", closed, x -> x.correct(0, 0, 5));
        HeatBills kept = Houses.withFlats(10);
        kept.keep();
        isAct("restore", kept, x -> x.restore());
    }

    private static HeatBills withDevice() {
        HeatBills x = Houses.withFlats(10);
        x.addDevice(0, 2);
        return x;
    }

    /** Asks for an object with less than four states. */
    private static void isAct(String call, HeatBills x, ToIntFunction<HeatBills> act) {
        int states = x.count(13);
        DUE.holds(call + " is no error", act.applyAsInt(x) >= 0);
        DUE.is("count(13) after " + call, x.count(13), states + 1);
    }

    private static void noActs() {
        HeatBills x = Houses.withFlats(10);
        x.addDevice(0, 2);
        x.keep();
        x.type('0');
        x.clearText();
        x.set(0, 0);
        x.set(0, -1);
        x.read(0, 0);
        x.mark(0, false);
        x.readAll();
        x.between(0, 5);
        x.correct(0, 0, 0);
        x.addFlat(0);
        DUE.is("count(13)", x.count(13), 2);
        DUE.is("undo()", x.undo(), 1);
        DUE.is("count(2)", x.count(2), 0);
    }

    private static void everythingComesBack() {
        HeatBills x = Houses.ofFourDevices();
        x.set(0, 1001);
        x.read(1, 7);
        x.move(2, 4);
        x.between(2, 300);
        x.mark(3, true);
        x.close();
        x.set(0, 500);
        x.set(1, 33);
        x.read(0, 7);
        x.move(1, 4);
        x.between(1, 300);
        x.correct(0, 0, 5);
        Houses.typeText(x, "1=?");
        int[] atKeep = allAnswers(x);
        x.keep();
        x.set(2, 1);
        x.correct(0, 1, 8);
        x.readAll();
        x.addDevice(0, 9);
        int[] before = allAnswers(x);
        x.close();
        x.clearText();
        x.restore();
        DUE.is("count(14), the text isn't restored", x.count(14), 0);
        Houses.typeText(x, "1=?");
        same("restore()", x, atKeep);
        x.undo();
        x.undo();
        same("undo()", x, before);
    }

    private static void otherFlatsComeBack() {
        HeatBills x = Houses.withFlats(10, 20);
        x.addDevice(1, 7);
        x.keep();
        x.undo();
        x.undo();
        DUE.is("count(1)", x.count(1), 1);
        DUE.is("count(2)", x.count(2), 0);
        x.addFlat(30);
        x.addDevice(0, 8);
        x.restore();
        DUE.is("flat(1, 0)", x.flat(1, 0), 20);
        DUE.is("device(0, 0)", x.device(0, 0), 1);
        DUE.is("device(0, 1)", x.device(0, 1), 7);
        x.undo();
        DUE.is("flat(1, 0)", x.flat(1, 0), 30);
        DUE.is("device(0, 0)", x.device(0, 0), 0);
        DUE.is("device(0, 1)", x.device(0, 1), 8);
    }

    private static void fewerFlatsThanBefore() {
        HeatBills x = Houses.withFlats(10);
        x.set(0, 100);
        x.addDevice(0, 1);
        x.addFlat(30);
        x.close();
        DUE.is("count(10)", x.count(10), 100);
        x.undo();
        x.undo();
        x.close();
        DUE.is("count(10), of one flat", x.count(10), 100);
        DUE.is("correct(0, 0, 7)", x.correct(0, 0, 7), 0);
    }

    private static int[] allAnswers(HeatBills x) {
        int[] answers = new int[100];
        int size = 0;
        for (int what = 0; what < 13; what++) {
            answers[size++] = x.count(what);
        }
        for (int what = 0; what < 8; what++) {
            for (int flat = 0; flat < 3; flat++) {
                answers[size++] = x.flat(flat, what);
            }
        }
        for (int what = 0; what < 6; what++) {
            for (int device = 0; device < 5; device++) {
                answers[size++] = x.device(device, what);
            }
        }
        for (int device = 0; device < 5; device++) {
            answers[size++] = x.units(0, device);
        }
        for (int flat = 0; flat < 3; flat++) {
            answers[size++] = x.bill(0, flat, false, false);
            answers[size++] = x.bill(0, flat, true, false);
            answers[size++] = x.bill(0, flat, false, true);
            answers[size++] = x.bill(0, flat, true, true);
        }
        return Arrays.copyOf(answers, size);
    }

    private static void same(String call, HeatBills x, int[] want) {
        int[] got = allAnswers(x);
        for (int i = 0; i < want.length; i++) {
            DUE.is("answer " + i + " after " + call, got[i], want[i]);
        }
    }
}
