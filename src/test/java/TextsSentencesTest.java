/** TEXTS, and promises 7, 12 and 13: a test of its own for each sentence that names a bound. */
public final class TextsSentencesTest {
    private static final Due DUE = new Due("TextsSentencesTest");
    private static final String SIGNS = "0129=?;x";

    public static void main(String[] args) {
        atMost60();
        oneOrMore();
        devices();
        readings();
        faultyOnes();
        noZeroInFront();
        digitsThatAreNotAllowed();
        firstCharacter();
        endsTooEarly();
        charactersBesideDigits();
        allShortTexts();
        allOrNone();
        readAll();
        type();
        clearText();
        DUE.end();
    }

    private static HeatBills withAllDevices() {
        HeatBills x = Houses.withFlats(10);
        for (int device = 0; device < 20; device++) {
            x.addDevice(0, 1);
        }
        return x;
    }

    private static void answers(String text, int want) {
        DUE.is("readAll of '" + text + "'", Houses.readText(withAllDevices(), text), want);
    }

    /** What stood in the text before it was cleared is no part of it. */
    private static void answersBehind(String former, String text, int want) {
        HeatBills x = withAllDevices();
        Houses.typeText(x, former);
        DUE.is("readAll of '" + text + "' behind '" + former + "'", Houses.readText(x, text), want);
    }

    private static void atMost60() {
        DUE.sentence("There is a text of at most 60 characters, empty at first.");
        HeatBills x = withAllDevices();
        DUE.is("count(14), at first", x.count(14), 0);
        String fitting = "0=0;".repeat(14) + "0=77";
        Houses.typeText(x, fitting);
        DUE.is("count(14), full", x.count(14), 60);
        DUE.is("type, the 61st", x.type('7'), -3);
        DUE.is("count(14), still full", x.count(14), 60);
        DUE.is("readAll(), the 61st isn't there", x.readAll(), 15);
        DUE.is("device(0, 3)", x.device(0, 3), 77);
        DUE.is("clearText()", x.clearText(), 60);
        DUE.is("type, room again", x.type('0'), 1);
        answers("0=0;".repeat(15), -160);
        answers("0=0;".repeat(14) + "0=0", 15);
        answers("0=0;".repeat(14) + "0=0x", -159);
        answers("19=9999;".repeat(7) + "19=?", 8);
        answers("19=9999;".repeat(7) + "19=1", 8);
        answers("x".repeat(60), -100);
    }

    private static void oneOrMore() {
        DUE.sentence("A text of readings is one or more readings with \";\" between two");
        answers("", -100);
        answers("3=4", 1);
        answers("3=4;5=6", 2);
        answers("3=4;5=6;7=?", 3);
        answers(";3=4", -100);
        answers("3=4;", -104);
        answers("3=4;;5=6", -104);
        answers("3=4,5=6", -103);
        answers("3=45=6", -104);
        answers("3=?5=6", -103);
    }

    private static void devices() {
        DUE.sentence("a device (0 to 19), \"=\"");
        for (int device = 0; device < 20; device++) {
            answers(device + "=1", 1);
        }
        answers("20=1", -101);
        answers("21=1", -101);
        answers("29=1", -101);
        answers("30=1", -101);
        answers("99=1", -101);
        answers("190=1", -102);
        answers("100=1", -102);
        answers("-1=1", -100);
        answers("=1", -100);
        answers("?=1", -100);
        answers("1?", -101);
        answers("1;", -101);
        answers("19;", -102);
        answers("1==1", -102);
    }

    private static void readings() {
        DUE.sentence("its reading at the end (0 to 9999), or \"?\" if it is faulty");
        int[] fitting = {0, 1, 9, 10, 99, 100, 999, 1000, 9998, 9999};
        for (int reading : fitting) {
            HeatBills x = withAllDevices();
            DUE.is("readAll of " + reading, Houses.readText(x, "7=" + reading), 1);
            DUE.is("device(7, 3)", x.device(7, 3), reading);
        }
        answers("7=10000", -106);
        answers("7=99999", -106);
        answers("7=12345", -106);
        answers("7=-1", -102);
        answers("7=;1=1", -102);
        answers("7=?", 1);
    }

    private static void faultyOnes() {
        DUE.sentence("(\"?\" marks a device as faulty, a reading as sound)");
        HeatBills x = Houses.withFlats(10);
        x.addDevice(0, 1);
        x.read(0, 9);
        DUE.is("readAll of '0=?'", Houses.readText(x, "0=?"), 1);
        DUE.is("count(3)", x.count(3), 1);
        DUE.is("device(0, 3), the reading stays", x.device(0, 3), 9);
        DUE.is("readAll of '0=?' again", x.readAll(), 1);
        DUE.is("count(3), still", x.count(3), 1);
        DUE.is("readAll of '0=9', as it is", Houses.readText(x, "0=9"), 1);
        DUE.is("count(3), sound", x.count(3), 0);
        DUE.is("readAll of '0=?;0=8;0=?'", Houses.readText(x, "0=?;0=8;0=?"), 3);
        DUE.is("device(0, 3), one after the other", x.device(0, 3), 8);
        DUE.is("count(3), one after the other", x.count(3), 1);
    }

    private static void noZeroInFront() {
        DUE.sentence("numbers have no zero in front, unless it is the single digit 0");
        answers("0=0", 1);
        answers("00=0", -101);
        answers("01=0", -101);
        answers("019=0", -101);
        answers("0=00", -103);
        answers("0=01", -103);
        answers("0=0001", -103);
        answers("10=10", 1);
        answers("10=1000", 1);
        answers("1=100;0=0;2=00", -113);
        answers("1=1;01=1", -105);
    }

    private static void digitsThatAreNotAllowed() {
        DUE.sentence("a digit by which a device would be more than 19, or a reading have five digits, is not allowed");
        answers("20", -101);
        answers("2", -101);
        answers("19", -102);
        answers("199", -102);
        answers("0=99999", -106);
        answers("0=9999", 1);
        answers("0=9999;20=1", -108);
        answers("10=99999", -107);
    }

    private static void firstCharacter() {
        DUE.sentence("The fault of the text is the index, from 0, of the first character"
                + " that is not allowed at its place");
        String text = "19=9999;0=?;7=0;12=340;3=6;4=?;18=1";
        for (int place = 0; place < text.length(); place++) {
            answers(text.substring(0, place) + 'x' + text.substring(place + 1), -100 - place);
            answers(text.substring(0, place) + (char) 233 + text.substring(place), -100 - place);
        }
        answers(text + "x", -100 - text.length());
        answers("x=99999;;", -100);
        answers("1=99999;;", -106);
    }

    private static void endsTooEarly() {
        DUE.sentence("or the length of the text if it ends too early (the empty text does)");
        String text = "19=9999;0=?;7=0";
        for (int length = 0; length <= text.length(); length++) {
            String start = text.substring(0, length);
            boolean isWhole = start.endsWith("?") || start.matches(".*=[0-9]+");
            int want = isWhole ? start.split(";").length : -100 - length;
            answers(start, want);
            answersBehind(text, start, want);
        }
        // texts of 60 that end behind a device, behind "=", and behind ";"
        answers("10=0;10=0;" + "0=0;".repeat(12) + "19", -160);
        answers("10=0;10=0;" + "0=0;".repeat(12) + "1=", -160);
        answers("0=0;".repeat(15), -160);
        HeatBills x = new HeatBills();
        DUE.is("readAll(), nothing was typed", x.readAll(), -100);
        x.type('0');
        x.clearText();
        DUE.is("readAll(), empty again", x.readAll(), -100);
    }

    /** Neighbours of the signs that are allowed, and signs that are so in other alphabets. */
    private static void charactersBesideDigits() {
        DUE.sentence("`character`: any character");
        char[] others = {0, 1, ' ', '\n', '/', ':', '<', '>', '@', 127, 128, 255, 256, '0' + 256, 0x0660, 0xFF10, 0xFFFF};
        for (char other : others) {
            answers(other + "=1", -100);
            answers("1" + other + "1", -101);
            answers("1=" + other, -102);
            answers("1=1" + other, -103);
            answers("1=?" + other, -103);
        }
    }

    /** Every text of at most five of the signs, against the regular expression of the model. */
    private static void allShortTexts() {
        DUE.sentence("The fault of the text is the index");
        HeatBills x = null;
        Model model = null;
        int texts = 0;
        for (int length = 0; length <= 5; length++) {
            int many = (int) Math.pow(SIGNS.length(), length);
            for (int number = 0; number < many; number++) {
                if (texts % 60 == 0) {
                    x = withAllDevices();
                    model = new Model();
                    model.addFlat(10);
                    for (int device = 0; device < 20; device++) {
                        model.addDevice(0, 1);
                    }
                }
                texts++;
                String text = shortText(number, length);
                model.clearText();
                for (int i = 0; i < length; i++) {
                    model.type(text.charAt(i));
                }
                DUE.is("readAll of '" + text + "'", Houses.readText(x, text), model.readAll());
            }
        }
    }

    private static String shortText(int number, int length) {
        StringBuilder text = new StringBuilder();
        int rest = number;
        for (int i = 0; i < length; i++) {
            text.append(SIGNS.charAt(rest % SIGNS.length()));
            rest /= SIGNS.length();
        }
        return text.toString();
    }

    private static void allOrNone() {
        DUE.sentence("one after the other (\"?\" marks a device as faulty, a reading as sound); all of them,"
                + " or none. This is one act.");
        HeatBills x = Houses.withFlats(10);
        for (int device = 0; device < 3; device++) {
            x.addDevice(0, 1);
        }
        x.read(2, 5);
        x.close();
        x.mark(1, true);
        String[] refused = {"0=7;1=8;2=?;3=1", "0=7;1=8;2=4", "0=7;1=8;2=?;", "0=7;1=8;2=?x"};
        int[] want = {-1, -4, -112, -111};
        for (int i = 0; i < refused.length; i++) {
            DUE.is("readAll of '" + refused[i] + "'", Houses.readText(x, refused[i]), want[i]);
            DUE.is("device(0, 3), none", x.device(0, 3), 0);
            DUE.is("device(1, 4), none", x.device(1, 4), 1);
            DUE.is("device(2, 4), none", x.device(2, 4), 0);
            DUE.is("count(14), the text stays", x.count(14), refused[i].length());
        }
        DUE.is("readAll", Houses.readText(x, "0=7;1=8;2=?"), 3);
        DUE.is("device(0, 3), all", x.device(0, 3), 7);
        DUE.is("device(1, 4), all", x.device(1, 4), 0);
        DUE.is("device(2, 4), all", x.device(2, 4), 1);
        DUE.is("count(14), the text stays", x.count(14), 11);
        x.undo();
        DUE.is("device(0, 3), one act", x.device(0, 3), 0);
        DUE.is("device(1, 4), one act", x.device(1, 4), 1);
        DUE.is("device(2, 4), one act", x.device(2, 4), 0);
    }

    private static void readAll() {
        DUE.sentence("Returns how many there are; -100 minus the fault of the text if it has one (which is an error);"
                + " UNKNOWN if any device is not there; NOT_POSSIBLE if any reading is less than that at the beginning.");
        HeatBills x = Houses.withFlats(10);
        DUE.is("readAll of '0=1', no device", Houses.readText(x, "0=1"), -1);
        DUE.is("readAll of '0=?', no device", Houses.readText(x, "0=?"), -1);
        x.addDevice(0, 1);
        x.read(0, 5);
        x.close();
        DUE.is("readAll, a fault before unknown", Houses.readText(x, "1=1;0=4;x"), -108);
        DUE.is("readAll, the device 20 is a fault", Houses.readText(x, "20=1"), -101);
        DUE.is("readAll, unknown before not possible", Houses.readText(x, "0=4;1=9"), -1);
        DUE.is("readAll, unknown before not possible", Houses.readText(x, "1=9;0=4"), -1);
        DUE.is("readAll, one less", Houses.readText(x, "0=4"), -4);
        DUE.is("readAll, 0", Houses.readText(x, "0=0"), -4);
        DUE.is("readAll, not possible at last", Houses.readText(x, "0=6;0=4"), -4);
        DUE.is("readAll, as at the beginning", Houses.readText(x, "0=5"), 1);
        DUE.is("readAll, one more", Houses.readText(x, "0=6"), 1);
        DUE.is("readAll, down to the beginning", Houses.readText(x, "0=9;0=5"), 2);
        DUE.is("device(0, 3)", x.device(0, 3), 5);
        DUE.is("readAll, faulty", Houses.readText(x, "0=?"), 1);
        DUE.is("readAll, faulty and less", Houses.readText(x, "0=4"), -4);
        DUE.is("count(3), still faulty", x.count(3), 1);
    }

    private static void type() {
        DUE.sentence("Returns the length of the text then; FULL if it has 60 characters.");
        HeatBills x = new HeatBills();
        for (int length = 1; length <= 60; length++) {
            DUE.is("type", x.type((char) (length * 1092)), length);
        }
        DUE.is("type, full", x.type('0'), -3);
        DUE.is("type, full", x.type((char) 0xFFFF), -3);
        DUE.is("count(14)", x.count(14), 60);
        DUE.is("count(13), no act", x.count(13), 0);
        HeatBills y = new HeatBills();
        DUE.is("type, the sign 0", y.type((char) 0), 1);
        DUE.is("type, the last sign", y.type((char) 0xFFFF), 2);
    }

    private static void clearText() {
        DUE.sentence("Returns the length that it had.");
        HeatBills x = new HeatBills();
        DUE.is("clearText(), empty at first", x.clearText(), 0);
        x.type('a');
        DUE.is("clearText()", x.clearText(), 1);
        DUE.is("clearText(), empty already", x.clearText(), 0);
        for (int length = 1; length <= 60; length++) {
            x.type(';');
        }
        DUE.is("clearText(), full", x.clearText(), 60);
        DUE.is("count(14)", x.count(14), 0);
        DUE.is("count(13), no act", x.count(13), 0);
    }
}
