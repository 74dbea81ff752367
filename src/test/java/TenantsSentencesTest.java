/** TENANTS, and promises 8, 9 and 19: a test of its own for each sentence that names a bound. */
public final class TenantsSentencesTest {
    private static final Due DUE = new Due("TenantsSentencesTest");
    private static final int MIN = Integer.MIN_VALUE;
    private static final int MAX = Integer.MAX_VALUE;

    public static void main(String[] args) {
        secondTenant();
        monthsOfMoves();
        partsOfReadings();
        baseByMonths();
        unitsByParts();
        unitsByWeights();
        eachRoundedDown();
        greatestAmounts();
        allFlatsMove();
        move();
        between();
        draft();
        DUE.end();
    }

    /** One flat, so that the whole cost is its own. */
    private static HeatBills oneFlat(int cost, int share, int month) {
        HeatBills x = Houses.withFlats(10);
        x.set(0, cost);
        x.set(1, share);
        x.move(0, month);
        return x;
    }

    private static void pay(HeatBills x, int first, int second) {
        DUE.is("draft(0, false)", x.draft(0, false), first);
        DUE.is("draft(0, true)", x.draft(0, true), second);
    }

    private static void secondTenant() {
        DUE.sentence("A flat has a first tenant in the year, and perhaps a second one");
        HeatBills x = Houses.withFlats(10, 10);
        DUE.is("draft(0, false), no cost", x.draft(0, false), 0);
        DUE.is("draft(0, true), nobody", x.draft(0, true), -1);
        x.move(1, 1);
        DUE.is("draft(0, true), another flat", x.draft(0, true), -1);
        DUE.is("draft(1, true), no cost", x.draft(1, true), 0);
        x.undo();
        DUE.is("draft(1, true), undone", x.draft(1, true), -1);
    }

    private static void monthsOfMoves() {
        DUE.sentence("who moves in at the beginning of a month (1 to 11)");
        HeatBills x = Houses.withFlats(10);
        int[] outside = {0, 12, -1, -11, MIN, MAX};
        for (int month : outside) {
            DUE.is("move(0, " + month + ")", x.move(0, month), -2);
        }
        DUE.is("flat(0, 6)", x.flat(0, 6), -5);
        DUE.is("move(0, 1)", x.move(0, 1), 170);
        DUE.is("flat(0, 6)", x.flat(0, 6), 1);
        x.undo();
        DUE.is("move(0, 11)", x.move(0, 11), 840);
        DUE.is("flat(0, 6)", x.flat(0, 6), 11);
    }

    private static void partsOfReadings() {
        DUE.sentence("a part of the units of the flat (0 to 1000 thousandths) that belong to the first tenant");
        HeatBills x = oneFlat(1000, 0, 1);
        int[] outside = {-1, 1001, -5, MIN, MAX};
        for (int part : outside) {
            DUE.is("between(0, " + part + ")", x.between(0, part), -2);
        }
        DUE.is("flat(0, 7)", x.flat(0, 7), -5);
        pay(x, 170, 830);
        DUE.is("between(0, 0)", x.between(0, 0), 1);
        DUE.is("flat(0, 7), 0 is a reading", x.flat(0, 7), 0);
        pay(x, 0, 1000);
        DUE.is("between(0, 1000)", x.between(0, 1000), 0);
        DUE.is("flat(0, 7)", x.flat(0, 7), 1000);
        pay(x, 1000, 0);
        x.between(0, 1);
        pay(x, 1, 999);
    }

    private static void baseByMonths() {
        DUE.sentence("the first tenant pays of its base cost the part m of 12");
        pay(oneFlat(12, 100, 1), 1, 11);
        pay(oneFlat(11, 100, 1), 0, 11);
        pay(oneFlat(12, 100, 11), 11, 1);
        pay(oneFlat(1, 100, 11), 0, 1);
        pay(oneFlat(13, 100, 11), 11, 2);
        pay(oneFlat(13, 100, 6), 6, 7);
        HeatBills x = oneFlat(12, 100, 6);
        x.between(0, 1000);
        // the reading in between is none of the base cost
        pay(x, 6, 6);
    }

    private static void unitsByParts() {
        DUE.sentence("of its cost by units the thousandths of the reading in between");
        HeatBills x = oneFlat(999, 0, 6);
        x.between(0, 999);
        pay(x, 998, 1);
        x.between(0, 1);
        pay(x, 0, 999);
        x.between(0, 1000);
        pay(x, 999, 0);
        x.between(0, 0);
        pay(x, 0, 999);
    }

    private static void unitsByWeights() {
        DUE.sentence("or, without one, the weights of the months ahead of m together");
        int[] ahead = {170, 320, 450, 530, 570, 583, 596, 610, 640, 720, 840};
        for (int month = 1; month < 12; month++) {
            pay(oneFlat(1000, 0, month), ahead[month - 1], 1000 - ahead[month - 1]);
            pay(oneFlat(1, 0, month), 0, 1);
            pay(oneFlat(1001, 0, month), ahead[month - 1], 1001 - ahead[month - 1]);
        }
    }

    private static void eachRoundedDown() {
        DUE.sentence("each rounded down. The second tenant pays what is left of both.");
        // 1 * 11 / 12 and 1 * 840 / 1000, together more than 1
        pay(oneFlat(2, 50, 11), 0, 2);
        // 23 * 11 / 12 = 21.08 and 23 * 840 / 1000 = 19.32
        pay(oneFlat(46, 50, 11), 40, 6);
        pay(oneFlat(0, 50, 5), 0, 0);
    }

    private static void greatestAmounts() {
        DUE.sentence("the first tenant pays of its base cost the part m of 12; of its cost by units the thousandths");
        pay(oneFlat(99999, 100, 11), 91665, 8334);
        pay(oneFlat(99999, 0, 11), 83999, 16000);
        HeatBills x = oneFlat(99999, 0, 1);
        x.between(0, 1000);
        pay(x, 99999, 0);
        x.between(0, 999);
        pay(x, 99899, 100);
    }

    private static void allFlatsMove() {
        DUE.sentence("12 for moves in the open year");
        HeatBills x = Houses.withFlats(10, 10, 10, 10, 10, 10, 10, 10);
        for (int flat = 0; flat < 8; flat++) {
            DUE.is("count(12)", x.count(12), flat);
            x.move(7 - flat, 6);
        }
        DUE.is("count(12), everybody", x.count(12), 8);
        x.set(0, 80);
        DUE.is("draft(7, true): 4 - 2 and 6 - 3", x.draft(7, true), 5);
        DUE.is("close()", x.close(), 0);
        DUE.is("count(12), a new year", x.count(12), 0);
        DUE.is("bill(0, 7, t, f)", x.bill(0, 7, true, false), 5);
        DUE.is("draft(7, true), a new year", x.draft(7, true), -1);
    }

    private static void move() {
        DUE.sentence("Returns the sum of the weights of the months ahead of it;"
                + " UNKNOWN; BAD_VALUE; NOT_POSSIBLE if there was a move already.");
        HeatBills x = new HeatBills();
        DUE.is("move(0, 1), no flats", x.move(0, 1), -1);
        x.addFlat(10);
        int[] noFlats = {-1, 1, 8, MIN, MAX};
        for (int flat : noFlats) {
            DUE.is("move(" + flat + ", 1)", x.move(flat, 1), -1);
            DUE.is("move(" + flat + ", 0), unknown before bad", x.move(flat, 0), -1);
        }
        DUE.is("move(0, 4)", x.move(0, 4), 530);
        DUE.is("move(0, 5), a move already", x.move(0, 5), -4);
        DUE.is("move(0, 4), the same move", x.move(0, 4), -4);
        DUE.is("move(0, 0), bad before not possible", x.move(0, 0), -2);
        DUE.is("move(0, 12), bad before not possible", x.move(0, 12), -2);
        DUE.is("flat(0, 6)", x.flat(0, 6), 4);
        x.close();
        DUE.is("move(0, 5), a new year", x.move(0, 5), 570);
    }

    private static void between() {
        DUE.sentence("Returns 1 if there was none before, otherwise 0; UNKNOWN; BAD_VALUE;"
                + " NOT_POSSIBLE if there was no move; NONE if it is so already.");
        HeatBills x = new HeatBills();
        DUE.is("between(0, 0), no flats", x.between(0, 0), -1);
        x.addFlat(10);
        int[] noFlats = {-1, 1, 8, MIN, MAX};
        for (int flat : noFlats) {
            DUE.is("between(" + flat + ", 0)", x.between(flat, 0), -1);
            DUE.is("between(" + flat + ", 1001), unknown before bad", x.between(flat, 1001), -1);
        }
        DUE.is("between(0, 0), no move", x.between(0, 0), -4);
        DUE.is("between(0, 1000), no move", x.between(0, 1000), -4);
        DUE.is("between(0, -1), bad before not possible", x.between(0, -1), -2);
        DUE.is("between(0, 1001), bad before not possible", x.between(0, 1001), -2);
        x.move(0, 5);
        DUE.is("between(0, 570), as the weights", x.between(0, 570), 1);
        DUE.is("between(0, 570) again", x.between(0, 570), -5);
        DUE.is("between(0, 0)", x.between(0, 0), 0);
        DUE.is("between(0, 0) again", x.between(0, 0), -5);
        x.undo();
        x.undo();
        DUE.is("between(0, 0), none before", x.between(0, 0), 1);
        x.close();
        DUE.is("between(0, 0), no move in the new year", x.between(0, 0), -4);
        x.move(0, 5);
        DUE.is("between(0, 0), none before in the new year", x.between(0, 0), 1);
    }

    private static void draft() {
        DUE.sentence("Returns the coins; UNKNOWN (also if there is no second tenant).");
        HeatBills x = new HeatBills();
        DUE.is("draft(0, false), no flats", x.draft(0, false), -1);
        x.addFlat(10);
        x.set(0, 99999);
        int[] noFlats = {-1, 1, 8, MIN, MAX};
        for (int flat : noFlats) {
            DUE.is("draft(" + flat + ", false)", x.draft(flat, false), -1);
            DUE.is("draft(" + flat + ", true)", x.draft(flat, true), -1);
        }
        DUE.is("draft(0, true)", x.draft(0, true), -1);
        DUE.is("draft(0, false)", x.draft(0, false), 99999);
        x.move(0, 6);
        DUE.is("draft(0, false)", x.draft(0, false), 19999 + 34980);
        DUE.is("draft(0, true)", x.draft(0, true), 20000 + 25020);
    }
}
