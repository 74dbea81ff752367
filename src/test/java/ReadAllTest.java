/** Promises 7, 12 and 13: the text, its faults, and the readings that are told by it. */
public final class ReadAllTest {
    private static final Due DUE = new Due("ReadAllTest");

    public static void main(String[] args) {
        type();
        faults();
        readings();
        errors();
        allOrNone();
        longTexts();
        DUE.end();
    }

    private static void type() {
        HeatBills x = new HeatBills();
        for (int i = 1; i <= 60; i++) {
            DUE.is("type", x.type((char) (i * 1000)), i);
        }
        DUE.is("type, the 61st", x.type('0'), -3);
        DUE.is("count(14)", x.count(14), 60);
        DUE.is("count(13), no act", x.count(13), 0);
        DUE.is("clearText()", x.clearText(), 60);
        DUE.is("clearText()", x.clearText(), 0);
        DUE.is("type((char) 0)", x.type((char) 0), 1);
        DUE.is("type((char) 65535)", x.type((char) 65535), 2);
    }

    private static void fault(String text, int want) {
        HeatBills x = Houses.withFlats(10);
        for (int i = 0; i < 20; i++) {
            x.addDevice(0, 1);
        }
        DUE.is("readAll of '" + text + "'", Houses.readText(x, text), want);
    }

    private static void faults() {
        fault("", -100);
        fault("x", -100);
        fault("=", -100);
        fault(";", -100);
        fault("?", -100);
        fault(" 0=1", -100);
        fault("-1=1", -100);
        fault("0", -101);
        fault("00=1", -101);
        fault("01=1", -101);
        fault("20=1", -101);
        fault("21=1", -101);
        fault("29=1", -101);
        fault("90=1", -101);
        fault("1", -101);
        fault("19", -102);
        fault("190=1", -102);
        fault("100=1", -102);
        fault("0;", -101);
        fault("0=", -102);
        fault("0=;", -102);
        fault("0==", -102);
        fault("0=x", -102);
        fault("0=??", -103);
        fault("0=?1", -103);
        fault("0=00", -103);
        fault("0=1?", -103);
        fault("0=12345", -106);
        fault("0=10000", -106);
        fault("0=10001", -106);
        fault("0=99990", -106);
        fault("0=1=", -103);
        fault("0=1;", -104);
        fault("0=1;;", -104);
        fault("0=1;20=2", -105);
        fault("0=?;1", -105);
        fault("0=1\n", -103);
        fault("0=" + (char) 0x0661, -102);
        fault("0=1" + (char) (0x100 + ';') + "1=1", -103);
        fault("0=0", 1);
        fault("0=9999", 1);
        fault("19=1000;10=?", 2);
        fault("1=1;11=11;2=2", 3);
    }

    private static void readings() {
        HeatBills x = Houses.ofFourDevices();
        x.mark(1, true);
        int states = x.count(13);
        DUE.is("readAll", Houses.readText(x, "0=12;1=30;3=?"), 3);
        DUE.is("count(14), the text stays", x.count(14), 13);
        DUE.is("device(0, 3)", x.device(0, 3), 12);
        DUE.is("device(1, 3)", x.device(1, 3), 30);
        DUE.is("device(1, 4), sound by a reading", x.device(1, 4), 0);
        DUE.is("device(3, 4)", x.device(3, 4), 1);
        DUE.is("count(13), the oldest is dropped", x.count(13), states);
        DUE.is("undo() of one act", x.undo(), 3);
        DUE.is("device(0, 3)", x.device(0, 3), 0);
        DUE.is("device(1, 4)", x.device(1, 4), 1);
        DUE.is("device(3, 4)", x.device(3, 4), 0);
        DUE.is("readAll again", x.readAll(), 3);
        DUE.is("readAll, nothing new is an act too", x.readAll(), 3);
        DUE.is("count(13)", x.count(13), 4);

        DUE.is("readAll, one device thrice", Houses.readText(x, "2=5;2=?;2=3"), 3);
        DUE.is("device(2, 3), the last one", x.device(2, 3), 3);
        DUE.is("device(2, 4)", x.device(2, 4), 0);
        DUE.is("readAll", Houses.readText(x, "2=8;2=?"), 2);
        DUE.is("device(2, 3), kept by '?'", x.device(2, 3), 8);
        DUE.is("device(2, 4)", x.device(2, 4), 1);
    }

    private static void errors() {
        HeatBills x = Houses.ofFourDevices();
        x.read(0, 10);
        x.close();
        DUE.is("readAll, a fault first", Houses.readText(x, "4=1;0=1;"), -108);
        DUE.is("readAll, unknown then", Houses.readText(x, "0=1;4=1"), -1);
        DUE.is("readAll, unknown by '?'", Houses.readText(x, "4=?"), -1);
        DUE.is("readAll, not possible", Houses.readText(x, "0=9"), -4);
        DUE.is("readAll, not possible at last", Houses.readText(x, "1=9;0=?;0=9"), -4);
        DUE.is("readAll, overruled, but not possible", Houses.readText(x, "0=9;0=12"), -4);
        DUE.is("readAll, as at the beginning", Houses.readText(x, "0=10"), 1);
        DUE.is("readAll, against the beginning alone", Houses.readText(x, "0=30;0=12"), 2);
        DUE.is("device(0, 3)", x.device(0, 3), 12);
    }

    private static void allOrNone() {
        HeatBills x = Houses.ofFourDevices();
        x.read(0, 10);
        x.close();
        x.undo();
        x.close();
        int states = x.count(13);
        Houses.readText(x, "1=5;0=9");
        Houses.readText(x, "1=5;2=?;4=9");
        Houses.readText(x, "1=5;2=?;");
        DUE.is("device(1, 3), nothing is told", x.device(1, 3), 0);
        DUE.is("count(3)", x.count(3), 0);
        DUE.is("count(13)", x.count(13), states);
    }

    private static void longTexts() {
        fault("0=0;".repeat(15), -160);
        fault("0=0;".repeat(14) + "0=0", 15);
        fault("0=0;".repeat(14) + "0=01", -159);
        fault("0=0;".repeat(14) + "0=12", 15);
        fault("19=1234;".repeat(7) + "1=?", 8);
        fault("19=1234;".repeat(7) + "1=?;", -160);
    }
}
