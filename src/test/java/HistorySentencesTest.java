import java.util.Arrays;
import java.util.function.Consumer;
import java.util.function.ToIntFunction;

/** HISTORY, and promises 14 to 16: a test of its own for each sentence that names a bound. */
public final class HistorySentencesTest {
    private static final Due DUE = new Due("HistorySentencesTest");

    public static void main(String[] args) {
        atMostFour();
        oldestIsDropped();
        latestIsRestored();
        aroundTheRing();
        actsThatAnswer0();
        noActs();
        oneSnapshot();
        stateWithoutText();
        stateWithoutSnapshot();
        everyStateIsWhole();
        undo();
        keep();
        restore();
        DUE.end();
    }

    private static void atMostFour() {
        DUE.sentence("A history of at most 4 states is kept");
        HeatBills x = new HeatBills();
        DUE.is("count(13), at first", x.count(13), 0);
        for (int act = 1; act <= 100; act++) {
            x.set(0, act);
            DUE.is("count(13) after " + act, x.count(13), Math.min(act, 4));
        }
    }

    private static void oldestIsDropped() {
        DUE.sentence("when one more is recorded, the oldest one is dropped");
        HeatBills x = new HeatBills();
        for (int act = 1; act <= 4; act++) {
            x.set(0, act);
        }
        back(x, 3, 2, 1, 0);
        for (int act = 1; act <= 5; act++) {
            x.set(0, act);
        }
        back(x, 4, 3, 2, 1);
        DUE.is("undo(), the state before is dropped", x.undo(), -5);
        DUE.is("count(4)", x.count(4), 1);
    }

    private static void latestIsRestored() {
        DUE.sentence("undo() removes and restores the latest one");
        HeatBills x = new HeatBills();
        x.set(0, 1);
        x.set(0, 2);
        x.undo();
        x.set(0, 3);
        back(x, 1, 0);
        x.set(0, 4);
        back(x, 0);
        DUE.is("undo()", x.undo(), -5);
    }

    /** Undoes as many times as there are costs, and asks for the costs; none is left then. */
    private static void back(HeatBills x, int... costs) {
        for (int i = 0; i < costs.length; i++) {
            DUE.is("undo()", x.undo(), costs.length - 1 - i);
            DUE.is("count(4)", x.count(4), costs[i]);
        }
    }

    private static void aroundTheRing() {
        DUE.sentence("the oldest one is dropped; undo() removes and restores the latest one");
        for (int acts = 0; acts < 12; acts++) {
            for (int undone = 0; undone <= Math.min(acts, 4); undone++) {
                HeatBills x = new HeatBills();
                for (int act = 1; act <= acts; act++) {
                    x.set(0, act);
                }
                for (int i = 0; i < undone; i++) {
                    x.undo();
                }
                DUE.is("count(4), undone " + undone, x.count(4), acts - undone);
                x.set(0, 100);
                x.set(0, 200);
                DUE.is("undo()", x.undo(), Math.min(Math.min(acts, 4) - undone + 1, 3));
                DUE.is("count(4)", x.count(4), 100);
                x.undo();
                DUE.is("count(4)", x.count(4), acts - undone);
            }
        }
    }

    /** 0 is no error and not NONE. */
    private static void actsThatAnswer0() {
        DUE.sentence("Each call of a method that is described as an act, and returns no error and not NONE,"
                + " records the state that was before it.");
        recordsAndAnswers0("addFlat(1)", x -> { }, x -> x.addFlat(1));
        recordsAndAnswers0("addDevice(0, 1)", x -> x.addFlat(1), x -> x.addDevice(0, 1));
        recordsAndAnswers0("set(0, 1)", x -> { }, x -> x.set(0, 1));
        recordsAndAnswers0("read(0, 0)", HistorySentencesTest::oneReadDevice, x -> x.read(0, 0));
        recordsAndAnswers0("mark(0, false)", x -> {
            oneDevice(x);
            x.mark(0, true);
        }, x -> x.mark(0, false));
        recordsAndAnswers0("between(0, 2)", x -> {
            x.addFlat(1);
            x.move(0, 1);
            x.between(0, 1);
        }, x -> x.between(0, 2));
        recordsAndAnswers0("close()", x -> x.addFlat(1), x -> x.close());
        recordsAndAnswers0("correct(0, 0, 1)", x -> {
            oneDevice(x);
            x.close();
        }, x -> x.correct(0, 0, 1));
        recordsAndAnswers0("restore()", x -> x.keep(), x -> x.restore());
        HeatBills moved = Houses.withFlats(1);
        DUE.is("move(0, 1)", moved.move(0, 1), 170);
        DUE.is("count(13)", moved.count(13), 2);
        HeatBills same = new HeatBills();
        oneReadDevice(same);
        DUE.is("readAll of what is so already", Houses.readText(same, "0=3"), 1);
        DUE.is("count(13)", same.count(13), 4);
    }

    private static void oneDevice(HeatBills x) {
        x.addFlat(1);
        x.addDevice(0, 1);
    }

    private static void oneReadDevice(HeatBills x) {
        oneDevice(x);
        x.read(0, 3);
    }

    private static void recordsAndAnswers0(String call, Consumer<HeatBills> before, ToIntFunction<HeatBills> act) {
        HeatBills x = new HeatBills();
        before.accept(x);
        int states = x.count(13);
        DUE.is(call, act.applyAsInt(x), 0);
        DUE.is("count(13) after " + call, x.count(13), states + 1);
    }

    private static void noActs() {
        DUE.sentence("Takes a snapshot of the state, in place of the one that was.");
        HeatBills x = new HeatBills();
        oneReadDevice(x);
        x.close();
        x.undo();
        DUE.is("count(13)", x.count(13), 3);
        x.keep();
        x.type('0');
        x.clearText();
        for (int slice = 0; slice < Questions.slices(); slice++) {
            DUE.holds("questions are asked", Questions.ask(x, slice).length > 0);
        }
        DUE.is("count(13), none of these is an act", x.count(13), 3);
    }

    private static void oneSnapshot() {
        DUE.sentence("There is one snapshot, empty at first.");
        HeatBills x = new HeatBills();
        DUE.is("restore(), empty", x.restore(), -5);
        x.set(0, 1);
        DUE.is("restore(), empty still", x.restore(), -5);
        DUE.is("count(4)", x.count(4), 1);
        x.keep();
        x.set(0, 2);
        x.keep();
        x.set(0, 3);
        x.restore();
        DUE.is("count(4), of the later snapshot", x.count(4), 2);
        HeatBills fresh = new HeatBills();
        DUE.is("keep(), of a new house", fresh.keep(), 0);
        fresh.addFlat(1);
        DUE.is("restore(), of a new house", fresh.restore(), 0);
        DUE.is("count(1)", fresh.count(1), 0);
    }

    private static void stateWithoutText() {
        DUE.sentence("A state is everything but the text, the history and the snapshot.");
        HeatBills x = new HeatBills();
        Houses.typeText(x, "abc");
        x.keep();
        x.set(0, 1);
        x.type('d');
        x.undo();
        DUE.is("count(14), undo leaves the text", x.count(14), 4);
        x.restore();
        DUE.is("count(14), restore leaves the text", x.count(14), 4);
        x.clearText();
        x.undo();
        x.restore();
        DUE.is("count(14), empty as it was", x.count(14), 0);
        DUE.is("count(13), restore leaves the history but for its own", x.count(13), 1);
    }

    private static void stateWithoutSnapshot() {
        DUE.sentence("Restores the state of the snapshot, which stays.");
        HeatBills x = Houses.withFlats(10);
        x.addDevice(0, 1);
        x.set(0, 100);
        x.close();
        x.keep();
        x.correct(0, 0, 5);
        x.addDevice(0, 2);
        x.read(0, 7);
        x.mark(0, true);
        x.move(0, 3);
        for (int i = 0; i < 3; i++) {
            DUE.is("restore()", x.restore(), 1);
            DUE.is("units(0, 0)", x.units(0, 0), 0);
            DUE.is("count(2)", x.count(2), 1);
            DUE.is("count(3)", x.count(3), 0);
            DUE.is("count(11)", x.count(11), 0);
            DUE.is("count(12)", x.count(12), 0);
            DUE.is("device(0, 3)", x.device(0, 3), 0);
            x.correct(0, 0, 6 + i);
            x.read(0, 8 + i);
            x.mark(0, true);
            x.move(0, 4);
            x.close();
        }
        x.undo();
        x.undo();
        x.undo();
        x.undo();
        DUE.is("restore(), undo leaves the snapshot", x.restore(), 1);
        DUE.is("units(0, 0)", x.units(0, 0), 0);
    }

    /** Each act in turn on a house with nearly all that fits. */
    private static void everyStateIsWhole() {
        DUE.sentence("A state is everything but the text");
        for (int number = 0; number < Full.ACTS; number++) {
            for (int slice = 0; slice < Questions.slices(); slice++) {
                int[] before = Questions.ask(Full.house(), slice);
                HeatBills undone = Full.house();
                DUE.holds("act " + number, Full.act(undone, number) >= 0);
                undone.undo();
                same("undo() of act " + number, undone, slice, before);
                HeatBills acted = Full.house();
                Full.act(acted, number);
                int[] after = Questions.ask(acted, slice);
                HeatBills restored = Full.house();
                restored.keep();
                Full.act(restored, number);
                restored.restore();
                same("restore() behind act " + number, restored, slice, before);
                HeatBills again = Full.house();
                again.keep();
                Full.act(again, number);
                again.restore();
                again.undo();
                same("undo() of restore() behind act " + number, again, slice, after);
            }
        }
    }

    private static void same(String call, HeatBills x, int slice, int[] want) {
        DUE.holds(call, Arrays.equals(Questions.ask(x, slice), want));
    }

    private static void undo() {
        DUE.sentence("Returns the number of states that are left; NONE if the history is empty.");
        HeatBills x = new HeatBills();
        DUE.is("undo(), empty", x.undo(), -5);
        x.addFlat(1);
        DUE.is("undo()", x.undo(), 0);
        DUE.is("undo(), empty again", x.undo(), -5);
        for (int i = 0; i < 9; i++) {
            x.set(1, i);
        }
        for (int left = 3; left >= 0; left--) {
            DUE.is("undo()", x.undo(), left);
            DUE.is("count(13)", x.count(13), left);
        }
        DUE.is("undo(), empty", x.undo(), -5);
        DUE.is("count(13)", x.count(13), 0);
        DUE.is("count(5)", x.count(5), 4);
    }

    private static void keep() {
        DUE.sentence("Returns the open year.");
        HeatBills x = Houses.withFlats(10);
        for (int year = 0; year < 4; year++) {
            DUE.is("keep()", x.keep(), year);
            x.close();
        }
        DUE.is("keep(), all are closed", x.keep(), 4);
        DUE.is("count(13), no act", x.count(13), 4);
        x.undo();
        DUE.is("keep(), a close is undone", x.keep(), 3);
    }

    private static void restore() {
        DUE.sentence("Returns the open year then; NONE if there is no snapshot.");
        HeatBills x = Houses.withFlats(10);
        DUE.is("restore(), no snapshot", x.restore(), -5);
        x.keep();
        for (int year = 0; year < 4; year++) {
            x.close();
        }
        DUE.is("restore(), far back", x.restore(), 0);
        DUE.is("bill(0, 0, f, f), not closed any more", x.bill(0, 0, false, false), -1);
        DUE.is("count(13), the oldest is dropped", x.count(13), 4);
        DUE.is("undo() of the restore", x.undo(), 3);
        DUE.is("count(0)", x.count(0), 4);
        x.keep();
        x.undo();
        x.undo();
        x.undo();
        DUE.is("count(0)", x.count(0), 1);
        DUE.is("restore(), far ahead", x.restore(), 4);
        DUE.is("restore(), as it is already", x.restore(), 4);
        DUE.is("count(13), both are acts", x.count(13), 2);
    }
}
