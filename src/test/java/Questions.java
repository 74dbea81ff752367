import java.util.ArrayList;
import java.util.List;
import java.util.function.ToIntFunction;

/** All that a house tells of its state, in slices that fit the 512 calls of an object. */
final class Questions {
    static final int SLICE = 250;
    private static final List<ToIntFunction<HeatBills>> ALL = all();

    private Questions() {
    }

    private static List<ToIntFunction<HeatBills>> all() {
        List<ToIntFunction<HeatBills>> questions = new ArrayList<>();
        // 13 and 14 are of the history and the text: they are no part of a state
        for (int i = 0; i < 13; i++) {
            int what = i;
            questions.add(x -> x.count(what));
        }
        for (int i = 0; i < 8; i++) {
            int flat = i;
            for (int j = 0; j < 8; j++) {
                int what = j;
                questions.add(x -> x.flat(flat, what));
            }
            questions.add(x -> x.draft(flat, false));
            questions.add(x -> x.draft(flat, true));
            questions.add(x -> x.greatest(flat));
            questions.add(x -> x.billIf(flat, 33));
            questions.add(x -> x.bestShare(flat));
        }
        for (int i = 0; i < 20; i++) {
            int device = i;
            for (int j = 0; j < 6; j++) {
                int what = j;
                questions.add(x -> x.device(device, what));
            }
        }
        for (int i = 0; i < 4; i++) {
            addYear(questions, i);
        }
        return questions;
    }

    private static void addYear(List<ToIntFunction<HeatBills>> questions, int year) {
        for (int i = 0; i < 20; i++) {
            int device = i;
            questions.add(x -> x.units(year, device));
        }
        for (int i = 0; i < 8; i++) {
            int flat = i;
            questions.add(x -> x.bill(year, flat, false, false));
            questions.add(x -> x.bill(year, flat, true, false));
            questions.add(x -> x.bill(year, flat, false, true));
            questions.add(x -> x.bill(year, flat, true, true));
        }
    }

    static int slices() {
        return (ALL.size() + SLICE - 1) / SLICE;
    }

    static int[] ask(HeatBills x, int slice) {
        List<ToIntFunction<HeatBills>> asked = ALL.subList(slice * SLICE, Math.min(ALL.size(), (slice + 1) * SLICE));
        return asked.stream().mapToInt(question -> question.applyAsInt(x)).toArray();
    }
}
