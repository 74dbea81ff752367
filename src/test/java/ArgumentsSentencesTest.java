import java.util.function.Supplier;
import java.util.function.ToIntBiFunction;

/** What each promise says of its arguments: the least and the most that fit, and what lies outside. */
public final class ArgumentsSentencesTest {
    private static final Due DUE = new Due("ArgumentsSentencesTest");
    private static final int UNKNOWN = -1;
    private static final int BAD_VALUE = -2;
    private static final int NONE = -5;

    public static void main(String[] args) {
        ofTheHouse();
        ofTheOpenYear();
        ofTenants();
        ofYears();
        ofFlatsAndDevices();
        ofBills();
        ofShares();
        anyCharacter();
        callsOfAnObject();
        DUE.end();
    }

    /** 3 flats, 4 devices, 2 closed years; flat 1 moves in each of them, and in the open one. */
    private static HeatBills house() {
        HeatBills x = Houses.ofFourDevices();
        for (int year = 0; year < 2; year++) {
            x.set(0, 1000);
            x.move(1, 6);
            x.close();
        }
        x.move(1, 6);
        return x;
    }

    private static void within(String call, Supplier<HeatBills> house, ToIntBiFunction<HeatBills, Integer> asked,
            int least, int most, int refused) {
        fits(call, asked.applyAsInt(house.get(), least), least);
        fits(call, asked.applyAsInt(house.get(), most), most);
        int[] outside = {least - 1, most + 1, Integer.MIN_VALUE, Integer.MAX_VALUE};
        for (int argument : outside) {
            DUE.is(call + " of " + argument, asked.applyAsInt(house.get(), argument), refused);
        }
    }

    private static void fits(String call, int got, int argument) {
        DUE.holds(call + " of " + argument + " fits, not " + got, got >= 0 || got == NONE);
    }

    private static void within(String call, ToIntBiFunction<HeatBills, Integer> asked, int least, int most, int refused) {
        within(call, ArgumentsSentencesTest::house, asked, least, most, refused);
    }

    private static void ofTheHouse() {
        DUE.sentence("Adds a flat. This is an act.\n\n- `area`: 1 to 200\n");
        within("addFlat", HeatBills::new, (x, area) -> x.addFlat(area), 1, 200, BAD_VALUE);
        DUE.sentence("Adds a device. This is an act.\n\n- `flat`: a flat\n- `factor`: 1 to 20\n");
        within("addDevice(*, 1)", (x, flat) -> x.addDevice(flat, 1), 0, 2, UNKNOWN);
        within("addDevice(0, *)", (x, factor) -> x.addDevice(0, factor), 1, 20, BAD_VALUE);
    }

    private static void ofTheOpenYear() {
        DUE.sentence("Sets a number of the open year. This is an act.\n\n- `what`: 0 for the cost (0 to 99999),"
                + " 1 for the base share (0 to 100), 2 for the manner (0 or 1)\n- `value`: the new number\n");
        within("set(*, 1)", (x, what) -> x.set(what, 1), 0, 2, BAD_VALUE);
        within("set(0, *)", (x, value) -> x.set(0, value), 0, 99999, BAD_VALUE);
        within("set(1, *)", (x, value) -> x.set(1, value), 0, 100, BAD_VALUE);
        within("set(2, *)", (x, value) -> x.set(2, value), 0, 1, BAD_VALUE);
        DUE.sentence("Tells the reading of a device at the end of the open year. This is an act.\n\n"
                + "- `device`: a device\n- `reading`: 0 to 9999\n");
        within("read(*, 1)", (x, device) -> x.read(device, 1), 0, 3, UNKNOWN);
        within("read(0, *)", (x, reading) -> x.read(0, reading), 0, 9999, BAD_VALUE);
        DUE.sentence("Tells that a device is faulty, or sound. This is an act.\n\n- `device`: a device\n"
                + "- `faulty`: whether it is faulty then\n");
        within("mark(*, true)", (x, device) -> x.mark(device, true), 0, 3, UNKNOWN);
        within("mark(*, false)", (x, device) -> x.mark(device, false), 0, 3, UNKNOWN);
    }

    private static void ofTenants() {
        DUE.sentence("Lets a second tenant move into a flat. This is an act.\n\n- `flat`: a flat\n- `month`: 1 to 11\n");
        Supplier<HeatBills> nobodyMoves = Houses::ofFourDevices;
        within("move(*, 1)", nobodyMoves, (x, flat) -> x.move(flat, 1), 0, 2, UNKNOWN);
        within("move(0, *)", nobodyMoves, (x, month) -> x.move(0, month), 1, 11, BAD_VALUE);
        DUE.sentence("Tells the reading in between of a move. This is an act.\n\n- `flat`: a flat\n- `part`: 0 to 1000\n");
        Supplier<HeatBills> everybodyMoves = () -> {
            HeatBills x = house();
            x.move(0, 1);
            x.move(2, 11);
            return x;
        };
        within("between(*, 1)", everybodyMoves, (x, flat) -> x.between(flat, 1), 0, 2, UNKNOWN);
        within("between(1, *)", (x, part) -> x.between(1, part), 0, 1000, BAD_VALUE);
    }

    private static void ofYears() {
        DUE.sentence("- `year`: a closed year\n- `device`: a device that was there\n- `units`: 0 to 199980\n");
        within("correct(*, 0, 1)", (x, year) -> x.correct(year, 0, 1), 0, 1, UNKNOWN);
        within("correct(0, *, 1)", (x, device) -> x.correct(0, device, 1), 0, 3, UNKNOWN);
        within("correct(0, 0, *)", (x, units) -> x.correct(0, 0, units), 0, 199980, BAD_VALUE);
        DUE.sentence("`int units(int year, int device)`: - `year`: a closed year\n- `device`: a device that was there\n");
        within("units(*, 0)", (x, year) -> x.units(year, 0), 0, 1, UNKNOWN);
        within("units(0, *)", (x, device) -> x.units(0, device), 0, 3, UNKNOWN);
        Supplier<HeatBills> oneMoreDevice = () -> {
            HeatBills x = house();
            x.addDevice(0, 1);
            x.close();
            return x;
        };
        within("units(1, *), one less", oneMoreDevice, (x, device) -> x.units(1, device), 0, 3, UNKNOWN);
        within("units(2, *), one more", oneMoreDevice, (x, device) -> x.units(2, device), 0, 4, UNKNOWN);
        within("correct(1, *, 1), one less", oneMoreDevice, (x, device) -> x.correct(1, device, 1), 0, 3, UNKNOWN);
        within("correct(2, *, 1), one more", oneMoreDevice, (x, device) -> x.correct(2, device, 1), 0, 4, UNKNOWN);
    }

    private static void ofFlatsAndDevices() {
        DUE.sentence("`int flat(int flat, int what)`: - `flat`: a flat\n- `what`: 0 for its area");
        within("flat(*, 0)", (x, flat) -> x.flat(flat, 0), 0, 2, UNKNOWN);
        within("flat(0, *)", (x, what) -> x.flat(0, what), 0, 7, BAD_VALUE);
        DUE.sentence("`int device(int device, int what)`: - `device`: a device\n- `what`: 0 for its flat");
        within("device(*, 0)", (x, device) -> x.device(device, 0), 0, 3, UNKNOWN);
        within("device(0, *)", (x, what) -> x.device(0, what), 0, 5, BAD_VALUE);
        DUE.sentence("`int count(int what)`: - `what`: 0 for the open year");
        within("count", (x, what) -> x.count(what), 0, 14, BAD_VALUE);
    }

    private static void ofBills() {
        DUE.sentence("(its draft).\n\n- `flat`: a flat\n- `second`: whether it is the second tenant\n");
        within("draft(*, false)", (x, flat) -> x.draft(flat, false), 0, 2, UNKNOWN);
        within("draft(*, true), flat 1 alone", (x, flat) -> x.draft(flat, true), 1, 1, UNKNOWN);
        DUE.sentence("`int bill(int year, int flat, boolean second, boolean anew)`: - `year`: a closed year\n"
                + "- `flat`: a flat\n- `second`: whether it is the second tenant\n");
        within("bill(*, 0, false, false)", (x, year) -> x.bill(year, 0, false, false), 0, 1, UNKNOWN);
        within("bill(*, 1, true, true)", (x, year) -> x.bill(year, 1, true, true), 0, 1, UNKNOWN);
        within("bill(0, *, false, false)", (x, flat) -> x.bill(0, flat, false, false), 0, 2, UNKNOWN);
        within("bill(1, *, true, false), flat 1 alone", (x, flat) -> x.bill(1, flat, true, false), 1, 1, UNKNOWN);
        within("bill(0, *, true, true), flat 1 alone", (x, flat) -> x.bill(0, flat, true, true), 1, 1, UNKNOWN);
    }

    private static void ofShares() {
        DUE.sentence("of several the lowest number.\n\n- `rank`: a rank, from 0\n");
        DUE.is("greatest(-1)", house().greatest(-1), BAD_VALUE);
        DUE.is("greatest(MIN)", house().greatest(Integer.MIN_VALUE), BAD_VALUE);
        DUE.is("greatest(0)", house().greatest(0), 0);
        DUE.is("greatest(2)", house().greatest(2), 2);
        DUE.is("greatest(3)", house().greatest(3), NONE);
        DUE.is("greatest(MAX)", house().greatest(Integer.MAX_VALUE), NONE);
        DUE.sentence("with another base share.\n\n- `flat`: a flat\n- `share`: 0 to 100\n\nReturns the bill; UNKNOWN; BAD_VALUE.");
        within("billIf(*, 0)", (x, flat) -> x.billIf(flat, 0), 0, 2, UNKNOWN);
        within("billIf(0, *)", (x, share) -> x.billIf(0, share), 0, 100, BAD_VALUE);
        DUE.sentence("the least that it can be.\n\n- `flat`: a flat\n\nReturns the share; UNKNOWN.");
        within("bestShare", (x, flat) -> x.bestShare(flat), 0, 2, UNKNOWN);
    }

    private static void anyCharacter() {
        DUE.sentence("Types a character behind the text.\n\n- `character`: any character\n");
        HeatBills x = null;
        for (int character = 0; character <= 0xFFFF; character++) {
            if (character % 60 == 0) {
                x = new HeatBills();
            }
            DUE.is("type of the character " + character, x.type((char) character), character % 60 + 1);
        }
    }

    private static void callsOfAnObject() {
        DUE.sentence("An object is used for at most 512 calls after it has been made");
        HeatBills acts = new HeatBills();
        for (int call = 1; call < 512; call++) {
            acts.set(0, call);
        }
        DUE.is("the 512th call, behind 511 acts", acts.count(4), 511);
        HeatBills kept = new HeatBills();
        for (int call = 1; call < 510; call += 2) {
            kept.keep();
            kept.restore();
        }
        DUE.is("the 511th call, behind 255 of restore()", kept.undo(), 3);
        HeatBills brimful = Brimful.house();
        int best = brimful.bestShare(7);
        for (int call = 0; call < 300; call++) {
            DUE.is("bestShare, over and over", brimful.bestShare(7), best);
        }
    }
}
