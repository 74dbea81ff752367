/** Promises 8, 9 and 19: moves, readings in between, and the drafts of both tenants. */
public final class TenantsTest {
    private static final Due DUE = new Due("TenantsTest");

    public static void main(String[] args) {
        weights();
        move();
        between();
        drafts();
        nextYear();
        DUE.end();
    }

    private static void weights() {
        int[] ahead = {170, 320, 450, 530, 570, 583, 596, 610, 640, 720, 840};
        for (int month = 1; month <= 11; month++) {
            HeatBills x = Houses.withFlats(10);
            x.set(0, 99000);
            x.set(1, 0);
            DUE.is("move(0, " + month + ")", x.move(0, month), ahead[month - 1]);
            DUE.is("draft(0, false)", x.draft(0, false), 99 * ahead[month - 1]);
            x.set(1, 100);
            DUE.is("draft(0, false)", x.draft(0, false), 8250 * month);
        }
    }

    private static void move() {
        HeatBills x = Houses.withFlats(10, 10);
        DUE.is("move(2, 0), unknown before bad", x.move(2, 0), -1);
        DUE.is("move(-1, 1)", x.move(-1, 1), -1);
        DUE.is("move(0, 0)", x.move(0, 0), -2);
        DUE.is("move(0, 12)", x.move(0, 12), -2);
        DUE.is("move(0, MIN)", x.move(0, Integer.MIN_VALUE), -2);
        DUE.is("move(0, 5)", x.move(0, 5), 570);
        DUE.is("move(0, 5) again", x.move(0, 5), -4);
        DUE.is("move(0, 12), bad before not possible", x.move(0, 12), -2);
        DUE.is("move(1, 5)", x.move(1, 5), 570);
        DUE.is("count(12)", x.count(12), 2);
    }

    private static void between() {
        HeatBills x = Houses.withFlats(10, 10);
        DUE.is("between(2, -1), unknown before bad", x.between(2, -1), -1);
        DUE.is("between(0, -1)", x.between(0, -1), -2);
        DUE.is("between(0, 1001)", x.between(0, 1001), -2);
        DUE.is("between(0, 0), no move", x.between(0, 0), -4);
        x.move(0, 6);
        DUE.is("between(1, 0), no move there", x.between(1, 0), -4);
        DUE.is("between(0, 0)", x.between(0, 0), 1);
        DUE.is("between(0, 0) again", x.between(0, 0), -5);
        DUE.is("between(0, 1000)", x.between(0, 1000), 0);
        DUE.is("between(0, 1000) again", x.between(0, 1000), -5);
        DUE.is("between(0, 583)", x.between(0, 583), 0);
        DUE.is("flat(0, 7)", x.flat(0, 7), 583);
    }

    private static void drafts() {
        HeatBills x = Houses.withFlats(3, 4);
        x.set(0, 101);
        // the base cost of 40 is shared as 17 and 23, the other 61 as 26 and 35
        DUE.is("draft(0, false)", x.draft(0, false), 43);
        DUE.is("draft(1, false)", x.draft(1, false), 58);
        DUE.is("draft(0, true), nobody", x.draft(0, true), -1);
        DUE.is("draft(2, false)", x.draft(2, false), -1);
        DUE.is("draft(-1, true)", x.draft(-1, true), -1);
        x.move(0, 7);
        DUE.is("draft(0, false): 9 + 15, each rounded down", x.draft(0, false), 24);
        DUE.is("draft(0, true)", x.draft(0, true), 19);
        DUE.is("draft(1, true), nobody there", x.draft(1, true), -1);
        x.between(0, 0);
        DUE.is("draft(0, false), nothing by units", x.draft(0, false), 9);
        x.between(0, 1000);
        DUE.is("draft(0, false), all by units", x.draft(0, false), 35);
        DUE.is("draft(0, true)", x.draft(0, true), 8);
        DUE.is("flat(0, 5), of both", x.flat(0, 5), 43);
    }

    private static void nextYear() {
        HeatBills x = Houses.withFlats(10);
        x.move(0, 3);
        x.between(0, 5);
        x.close();
        DUE.is("flat(0, 6) after a close", x.flat(0, 6), -5);
        DUE.is("flat(0, 7) after a close", x.flat(0, 7), -5);
        DUE.is("draft(0, true) after a close", x.draft(0, true), -1);
        DUE.is("between(0, 5) after a close", x.between(0, 5), -4);
        DUE.is("move(0, 4) after a close", x.move(0, 4), 530);
        DUE.is("between(0, 5), none before", x.between(0, 5), 1);
    }
}
