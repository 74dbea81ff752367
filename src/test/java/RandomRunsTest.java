import java.util.Random;

/** All promises: runs of 512 calls, each answer against that of the model; the seeds are fixed. */
public final class RandomRunsTest {
    private static final int RUNS = 3000;
    private static final int CALLS = 512;
    private static final int[] WILD = {Integer.MIN_VALUE, Integer.MAX_VALUE, -100, -5, -2, -1, 0, 1, 1000000};

    private final Due due;
    private final Random random;
    private final HeatBills x = new HeatBills();
    private final Model model = new Model();
    private final StringBuilder run = new StringBuilder();
    private final boolean isLarge;
    private String toType = "";

    private RandomRunsTest(Due due, long seed) {
        this.due = due;
        this.random = new Random(seed);
        this.isLarge = seed % 2 == 0;
        run.append("seed ").append(seed);
    }

    public static void main(String[] args) {
        Due due = new Due("RandomRunsTest");
        for (int seed = 0; seed < RUNS; seed++) {
            RandomRunsTest one = new RandomRunsTest(due, seed);
            boolean same = true;
            for (int call = 0; call < CALLS && same; call++) {
                same = one.step(call);
            }
        }
        due.end();
    }

    /** Mostly least to most, or a little beyond; rarely anything. */
    private int number(int least, int most) {
        int kind = random.nextInt(60);
        if (kind == 0) {
            return WILD[random.nextInt(WILD.length)];
        }
        if (kind == 1) {
            return random.nextBoolean() ? least - 1 : most + 1;
        }
        if (kind < 6) {
            return random.nextBoolean() ? least : most;
        }
        if (!isLarge && kind < 40) {
            return least + random.nextInt(Math.min(most - least, 12) + 1);
        }
        return least + random.nextInt(most - least + 1);
    }

    private int flat() {
        return number(0, Math.max(0, model.count(1) - 1));
    }

    private int device() {
        return number(0, Math.max(0, model.count(2) - 1));
    }

    private int year() {
        return number(0, Math.max(0, model.count(0) - 1));
    }

    private int reading(int device) {
        int begin = Math.max(0, model.device(device, 2));
        return random.nextInt(8) == 0 ? number(0, 9999) : number(begin, Math.min(9999, begin + 40));
    }

    private String someText() {
        StringBuilder text = new StringBuilder();
        int readings = random.nextInt(4) == 0 ? 16 : 1 + random.nextInt(3);
        for (int i = 0; i < readings; i++) {
            int device = device();
            text.append(i == 0 ? "" : ";").append(device).append('=');
            text.append(random.nextInt(4) == 0 ? "?" : String.valueOf(reading(device)));
        }
        if (random.nextInt(3) == 0 && text.length() > 0) {
            String signs = "0123456789=;?" + (char) 233;
            char sign = signs.charAt(random.nextInt(signs.length()));
            int place = random.nextInt(text.length());
            switch (random.nextInt(3)) {
                case 0 -> text.setCharAt(place, sign);
                case 1 -> text.insert(place, sign);
                default -> text.deleteCharAt(place);
            }
        }
        return text.toString();
    }

    private boolean check(String call, int got, int want) {
        run.append(' ').append(call).append(';');
        due.is(got == want ? call : run.toString(), got, want);
        return got == want;
    }

    private boolean step(int call) {
        if (!toType.isEmpty()) {
            char character = toType.charAt(0);
            toType = toType.substring(1);
            return check("type(" + (int) character + ")", x.type(character), model.type(character));
        }
        if (call < 6) {
            int area = number(1, 200);
            return check("addFlat(" + area + ")", x.addFlat(area), model.addFlat(area));
        }
        if (call < 14) {
            return addDevice();
        }
        int kind = random.nextInt(100);
        return kind < 55 ? change(kind) : tell(kind - 55);
    }

    private boolean addDevice() {
        int flat = flat();
        int factor = number(1, 20);
        return check("addDevice(" + flat + "," + factor + ")", x.addDevice(flat, factor), model.addDevice(flat, factor));
    }

    private boolean change(int kind) {
        int flat = flat();
        int device = device();
        if (kind < 1) {
            int area = number(1, 200);
            return check("addFlat(" + area + ")", x.addFlat(area), model.addFlat(area));
        }
        if (kind < 3) {
            return addDevice();
        }
        if (kind < 10) {
            int what = number(0, 2);
            int value = what == 0 ? number(0, 99999) : what == 1 ? number(0, 100) : number(0, 1);
            return check("set(" + what + "," + value + ")", x.set(what, value), model.set(what, value));
        }
        if (kind < 19) {
            int reading = reading(device);
            return check("read(" + device + "," + reading + ")", x.read(device, reading), model.read(device, reading));
        }
        if (kind < 22) {
            boolean faulty = random.nextBoolean();
            return check("mark(" + device + "," + faulty + ")", x.mark(device, faulty), model.mark(device, faulty));
        }
        if (kind < 25) {
            return check("readAll()", x.readAll(), model.readAll());
        }
        if (kind < 30) {
            int month = number(1, 11);
            return check("move(" + flat + "," + month + ")", x.move(flat, month), model.move(flat, month));
        }
        if (kind < 34) {
            int part = number(0, 1000);
            return check("between(" + flat + "," + part + ")", x.between(flat, part), model.between(flat, part));
        }
        if (kind < 37) {
            return check("close()", x.close(), model.close());
        }
        if (kind < 43) {
            int year = year();
            int units = number(0, random.nextInt(3) == 0 ? 199980 : 60);
            return check("correct(" + year + "," + device + "," + units + ")",
                    x.correct(year, device, units), model.correct(year, device, units));
        }
        if (kind < 45) {
            toType = someText();
            return check("clearText()", x.clearText(), model.clearText());
        }
        if (kind < 50) {
            return check("undo()", x.undo(), model.undo());
        }
        if (kind < 52) {
            return check("keep()", x.keep(), model.keep());
        }
        return kind < 54 ? check("restore()", x.restore(), model.restore())
                : check("readAll()", x.readAll(), model.readAll());
    }

    private boolean tell(int kind) {
        int flat = flat();
        int device = device();
        int year = year();
        boolean second = random.nextBoolean();
        boolean anew = random.nextBoolean();
        if (kind < 10) {
            int what = number(0, 7);
            return check("flat(" + flat + "," + what + ")", x.flat(flat, what), model.flat(flat, what));
        }
        if (kind < 17) {
            int what = number(0, 5);
            return check("device(" + device + "," + what + ")", x.device(device, what), model.device(device, what));
        }
        if (kind < 21) {
            return check("draft(" + flat + "," + second + ")", x.draft(flat, second), model.draft(flat, second));
        }
        if (kind < 28) {
            return check("bill(" + year + "," + flat + "," + second + "," + anew + ")",
                    x.bill(year, flat, second, anew), model.bill(year, flat, second, anew));
        }
        if (kind < 31) {
            return check("units(" + year + "," + device + ")", x.units(year, device), model.units(year, device));
        }
        if (kind < 34) {
            int rank = number(0, 7);
            return check("greatest(" + rank + ")", x.greatest(rank), model.greatest(rank));
        }
        if (kind < 37) {
            int share = number(0, 100);
            return check("billIf(" + flat + "," + share + ")", x.billIf(flat, share), model.billIf(flat, share));
        }
        if (kind < 38) {
            return check("bestShare(" + flat + ")", x.bestShare(flat), model.bestShare(flat));
        }
        int what = number(0, 14);
        return check("count(" + what + ")", x.count(what), model.count(what));
    }
}
