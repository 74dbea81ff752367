import java.math.BigInteger;
import java.util.ArrayList;
import java.util.Comparator;
import java.util.List;
import java.util.function.IntUnaryOperator;
import java.util.regex.Matcher;
import java.util.regex.Pattern;

/**
 * A second telling of the document, for RandomRunsTest: with lists, deep copies, big numbers and a
 * regular expression, so that a slip of the class is hardly one of the model as well.
 */
final class Model {
    private static final int UNKNOWN = -1;
    private static final int BAD = -2;
    private static final int FULL = -3;
    private static final int IMPOSSIBLE = -4;
    private static final int NONE = -5;
    private static final List<Integer> WEIGHTS =
            List.of(170, 150, 130, 80, 40, 13, 13, 14, 30, 80, 120, 160);
    private static final String READING = "(?:1?[0-9])=(?:\\?|0|[1-9][0-9]{0,3})";
    private static final Pattern TEXT = Pattern.compile(READING + "(?:;" + READING + ")*");

    private record Move(int month, Integer part) {
    }

    private record Device(int flat, int factor, int begin, int end, boolean faulty) {
        Device withEnd(int reading) {
            return new Device(flat, factor, begin, reading, faulty);
        }

        Device withFaulty(boolean isFaulty) {
            return new Device(flat, factor, begin, end, isFaulty);
        }
    }

    /** Tenants stand as first and second of flat 0, of flat 1 and so on; null is nobody. */
    private static final class Kept {
        int cost;
        int share;
        List<Move> moves;
        List<Integer> units;
        List<Integer> original;
        List<Integer> bills;

        Kept copy() {
            Kept copy = new Kept();
            copy.cost = cost;
            copy.share = share;
            copy.moves = new ArrayList<>(moves);
            copy.units = new ArrayList<>(units);
            copy.original = new ArrayList<>(original);
            copy.bills = new ArrayList<>(bills);
            return copy;
        }
    }

    private static final class State {
        List<Integer> areas = new ArrayList<>();
        List<Move> moves = new ArrayList<>();
        List<Device> devices = new ArrayList<>();
        List<Kept> years = new ArrayList<>();
        int cost = 0;
        int share = 40;
        int manner = 0;
        int corrections = 0;

        State copy() {
            State copy = new State();
            copy.areas.addAll(areas);
            copy.moves.addAll(moves);
            copy.devices.addAll(devices);
            for (Kept year : years) {
                copy.years.add(year.copy());
            }
            copy.cost = cost;
            copy.share = share;
            copy.manner = manner;
            copy.corrections = corrections;
            return copy;
        }
    }

    private State s = new State();
    private State snapshot = null;
    private final List<State> history = new ArrayList<>();
    private final StringBuilder text = new StringBuilder();

    private void act() {
        history.add(s.copy());
        if (history.size() > 4) {
            history.remove(0);
        }
    }

    private boolean noFlat(int flat) {
        return flat < 0 || flat >= s.areas.size();
    }

    private boolean noDevice(int device) {
        return device < 0 || device >= s.devices.size();
    }

    private static boolean outside(int value, int least, int most) {
        return value < least || value > most;
    }

    int addFlat(int area) {
        if (outside(area, 1, 200)) return BAD;
        if (s.areas.size() == 8) return FULL;
        if (!s.years.isEmpty()) return IMPOSSIBLE;
        act();
        s.areas.add(area);
        s.moves.add(null);
        return s.areas.size() - 1;
    }

    int addDevice(int flat, int factor) {
        if (noFlat(flat)) return UNKNOWN;
        if (outside(factor, 1, 20)) return BAD;
        if (s.devices.size() == 20) return FULL;
        act();
        s.devices.add(new Device(flat, factor, 0, 0, false));
        return s.devices.size() - 1;
    }

    int set(int what, int value) {
        if (outside(what, 0, 2)) return BAD;
        if (outside(value, 0, List.of(99999, 100, 1).get(what))) return BAD;
        int previous = List.of(s.cost, s.share, s.manner).get(what);
        if (previous == value) return NONE;
        act();
        if (what == 0) s.cost = value;
        if (what == 1) s.share = value;
        if (what == 2) s.manner = value;
        return previous;
    }

    int read(int device, int reading) {
        if (noDevice(device)) return UNKNOWN;
        if (outside(reading, 0, 9999)) return BAD;
        if (reading < s.devices.get(device).begin()) return IMPOSSIBLE;
        if (reading == s.devices.get(device).end()) return NONE;
        act();
        s.devices.set(device, s.devices.get(device).withEnd(reading));
        return openUnits().get(device);
    }

    int mark(int device, boolean faulty) {
        if (noDevice(device)) return UNKNOWN;
        if (s.devices.get(device).faulty() == faulty) return NONE;
        act();
        s.devices.set(device, s.devices.get(device).withFaulty(faulty));
        return faultyCount();
    }

    private int faultyCount() {
        return (int) s.devices.stream().filter(Device::faulty).count();
    }

    /** The length of the longest beginning that can be made a text of readings, or -1 if it is one. */
    private int fault() {
        for (int size = 1; size <= text.length(); size++) {
            Matcher matcher = TEXT.matcher(text.substring(0, size));
            boolean matches = matcher.matches();
            if (!matches && !matcher.hitEnd()) {
                return size - 1;
            }
        }
        return TEXT.matcher(text).matches() ? -1 : text.length();
    }

    int readAll() {
        int fault = fault();
        if (fault >= 0) return -100 - fault;
        String[] readings = text.toString().split(";");
        for (String reading : readings) {
            if (noDevice(Integer.parseInt(reading.split("=")[0]))) return UNKNOWN;
        }
        State then = s.copy();
        for (String reading : readings) {
            int device = Integer.parseInt(reading.split("=")[0]);
            String value = reading.split("=")[1];
            Device told = then.devices.get(device);
            if (value.equals("?")) {
                then.devices.set(device, told.withFaulty(true));
            } else {
                if (Integer.parseInt(value) < told.begin()) return IMPOSSIBLE;
                then.devices.set(device, told.withFaulty(false).withEnd(Integer.parseInt(value)));
            }
        }
        act();
        s = then;
        return readings.length;
    }

    private static int weightsAhead(int month) {
        return WEIGHTS.subList(0, month).stream().mapToInt(Integer::intValue).sum();
    }

    int move(int flat, int month) {
        if (noFlat(flat)) return UNKNOWN;
        if (outside(month, 1, 11)) return BAD;
        if (s.moves.get(flat) != null) return IMPOSSIBLE;
        act();
        s.moves.set(flat, new Move(month, null));
        return weightsAhead(month);
    }

    int between(int flat, int part) {
        if (noFlat(flat)) return UNKNOWN;
        if (outside(part, 0, 1000)) return BAD;
        Move move = s.moves.get(flat);
        if (move == null) return IMPOSSIBLE;
        if (move.part() != null && move.part() == part) return NONE;
        act();
        s.moves.set(flat, new Move(move.month(), part));
        return move.part() == null ? 1 : 0;
    }

    int close() {
        if (s.years.size() == 4) return FULL;
        if (s.areas.isEmpty()) return IMPOSSIBLE;
        act();
        Kept kept = new Kept();
        kept.cost = s.cost;
        kept.share = s.share;
        kept.moves = new ArrayList<>(s.moves);
        kept.units = openUnits();
        kept.bills = tenantBills(kept);
        kept.original = new ArrayList<>(kept.bills);
        s.years.add(kept);
        s.cost = 0;
        s.moves.replaceAll(move -> null);
        s.devices.replaceAll(d -> new Device(d.flat(), d.factor(), d.end(), d.end(), d.faulty()));
        return s.years.size() - 1;
    }

    private boolean noKept(int year, int device) {
        return outside(year, 0, s.years.size() - 1)
                || outside(device, 0, s.years.get(year).units.size() - 1);
    }

    int correct(int year, int device, int units) {
        if (noKept(year, device)) return UNKNOWN;
        if (outside(units, 0, 199980)) return BAD;
        if (s.years.get(year).units.get(device) == units) return NONE;
        act();
        s.corrections++;
        Kept kept = s.years.get(year);
        kept.units.set(device, units);
        List<Integer> before = kept.bills;
        kept.bills = tenantBills(kept);
        int others = 0;
        for (int i = 0; i < before.size(); i++) {
            if (before.get(i) != null && !before.get(i).equals(kept.bills.get(i))) others++;
        }
        return others;
    }

    int type(char character) {
        if (text.length() == 60) return FULL;
        return text.append(character).length();
    }

    int clearText() {
        int length = text.length();
        text.setLength(0);
        return length;
    }

    int undo() {
        if (history.isEmpty()) return NONE;
        s = history.remove(history.size() - 1);
        return history.size();
    }

    int keep() {
        snapshot = s.copy();
        return s.years.size();
    }

    int restore() {
        if (snapshot == null) return NONE;
        act();
        s = snapshot.copy();
        return s.years.size();
    }

    private Kept openYear(int share) {
        Kept open = new Kept();
        open.cost = s.cost;
        open.share = share;
        open.moves = s.moves;
        open.units = openUnits();
        return open;
    }

    private List<Integer> openUnits() {
        BigInteger sound = BigInteger.ZERO;
        int factors = 0;
        for (Device d : s.devices) {
            if (!d.faulty()) {
                sound = sound.add(BigInteger.valueOf((long) (d.end() - d.begin()) * d.factor()));
                factors += d.factor();
            }
        }
        List<Integer> units = new ArrayList<>();
        List<Integer> before = s.years.isEmpty() ? List.of() : s.years.get(s.years.size() - 1).units;
        for (int i = 0; i < s.devices.size(); i++) {
            Device d = s.devices.get(i);
            if (!d.faulty()) {
                units.add((d.end() - d.begin()) * d.factor());
            } else if (s.manner == 1 && i < before.size()) {
                units.add(before.get(i));
            } else if (factors == 0) {
                units.add(0);
            } else {
                BigInteger whole = sound.multiply(BigInteger.valueOf(d.factor()));
                units.add(whole.divide(BigInteger.valueOf(factors)).intValueExact());
            }
        }
        return units;
    }

    private List<Integer> flatUnits(List<Integer> deviceUnits) {
        List<Integer> units = new ArrayList<>();
        for (int flat = 0; flat < s.areas.size(); flat++) {
            int sum = 0;
            for (int i = 0; i < deviceUnits.size(); i++) {
                sum += s.devices.get(i).flat() == flat ? deviceUnits.get(i) : 0;
            }
            units.add(sum);
        }
        return units;
    }

    private List<Integer> share(int amount, List<Integer> parts) {
        BigInteger all = BigInteger.ZERO;
        for (int part : parts) {
            all = all.add(BigInteger.valueOf(part));
        }
        if (all.signum() == 0) {
            return parts.isEmpty() ? List.of() : share(amount, s.areas);
        }
        List<Integer> shares = new ArrayList<>();
        List<BigInteger> rests = new ArrayList<>();
        List<Integer> order = new ArrayList<>();
        int left = amount;
        for (int i = 0; i < parts.size(); i++) {
            BigInteger product = BigInteger.valueOf(amount).multiply(BigInteger.valueOf(parts.get(i)));
            shares.add(product.divide(all).intValueExact());
            rests.add(product.mod(all));
            order.add(i);
            left -= shares.get(i);
        }
        // the sort is stable: of several, the lowest number stays first
        order.sort(Comparator.comparing(rests::get, Comparator.reverseOrder()));
        for (int i : order.subList(0, left)) {
            shares.set(i, shares.get(i) + 1);
        }
        return shares;
    }

    private List<Integer> baseCosts(Kept year) {
        return share((int) ((long) year.cost * year.share / 100), s.areas);
    }

    private List<Integer> unitCosts(Kept year) {
        int base = (int) ((long) year.cost * year.share / 100);
        return share(year.cost - base, flatUnits(year.units));
    }

    private List<Integer> tenantBills(Kept year) {
        List<Integer> base = baseCosts(year);
        List<Integer> units = unitCosts(year);
        List<Integer> bills = new ArrayList<>();
        for (int flat = 0; flat < s.areas.size(); flat++) {
            int whole = base.get(flat) + units.get(flat);
            Move move = year.moves.get(flat);
            if (move == null) {
                bills.add(whole);
                bills.add(null);
                continue;
            }
            long part = move.part() == null ? weightsAhead(move.month()) : move.part();
            int first = (int) (base.get(flat) * (long) move.month() / 12 + units.get(flat) * part / 1000);
            bills.add(first);
            bills.add(whole - first);
        }
        return bills;
    }

    private int bill(int flat, int share) {
        Kept year = openYear(share);
        return baseCosts(year).get(flat) + unitCosts(year).get(flat);
    }

    int flat(int flat, int what) {
        if (noFlat(flat)) return UNKNOWN;
        Move move = s.moves.get(flat);
        Kept year = openYear(s.share);
        switch (what) {
            case 0: return s.areas.get(flat);
            case 1:
                int bits = 0;
                for (int i = 0; i < s.devices.size(); i++) {
                    if (s.devices.get(i).flat() == flat) bits += (int) Math.pow(2, i);
                }
                return bits;
            case 2: return flatUnits(year.units).get(flat);
            case 3: return baseCosts(year).get(flat);
            case 4: return unitCosts(year).get(flat);
            case 5: return bill(flat, s.share);
            case 6: return move == null ? NONE : move.month();
            case 7: return move == null || move.part() == null ? NONE : move.part();
            default: return BAD;
        }
    }

    int device(int device, int what) {
        if (noDevice(device)) return UNKNOWN;
        if (outside(what, 0, 5)) return BAD;
        Device d = s.devices.get(device);
        return List.of(d.flat(), d.factor(), d.begin(), d.end(), d.faulty() ? 1 : 0,
                openUnits().get(device)).get(what);
    }

    int draft(int flat, boolean second) {
        if (noFlat(flat)) return UNKNOWN;
        Integer bill = tenantBills(openYear(s.share)).get(2 * flat + (second ? 1 : 0));
        return bill == null ? UNKNOWN : bill;
    }

    int bill(int year, int flat, boolean second, boolean anew) {
        if (outside(year, 0, s.years.size() - 1) || noFlat(flat)) return UNKNOWN;
        Kept kept = s.years.get(year);
        int tenant = 2 * flat + (second ? 1 : 0);
        Integer bill = kept.bills.get(tenant);
        if (bill == null) return UNKNOWN;
        return anew ? 1000000 + bill - kept.original.get(tenant) : bill;
    }

    int units(int year, int device) {
        return noKept(year, device) ? UNKNOWN : s.years.get(year).units.get(device);
    }

    int greatest(int rank) {
        if (rank < 0) return BAD;
        List<Integer> costs = unitCosts(openYear(s.share));
        List<Integer> order = new ArrayList<>();
        for (int i = 0; i < costs.size(); i++) {
            order.add(i);
        }
        order.sort(Comparator.comparing(costs::get, Comparator.reverseOrder()));
        return rank < order.size() ? order.get(rank) : NONE;
    }

    int billIf(int flat, int share) {
        if (noFlat(flat)) return UNKNOWN;
        return outside(share, 0, 100) ? BAD : bill(flat, share);
    }

    int bestShare(int flat) {
        if (noFlat(flat)) return UNKNOWN;
        IntUnaryOperator bill = share -> bill(flat, share);
        int least = java.util.stream.IntStream.rangeClosed(0, 100).map(bill).min().getAsInt();
        return java.util.stream.IntStream.rangeClosed(0, 100)
                .filter(share -> bill(flat, share) == least).findFirst().getAsInt();
    }

    private static int sum(List<Integer> numbers) {
        return numbers.stream().mapToInt(n -> n == null ? 0 : n).sum();
    }

    int count(int what) {
        switch (what) {
            case 0: return s.years.size();
            case 1: return s.areas.size();
            case 2: return s.devices.size();
            case 3: return faultyCount();
            case 4: return s.cost;
            case 5: return s.share;
            case 6: return s.manner;
            case 7: return sum(s.areas);
            case 8: return sum(flatUnits(openUnits()));
            case 9: return sum(tenantBills(openYear(s.share)));
            case 10: return s.years.stream().mapToInt(year -> sum(year.bills)).sum();
            case 11: return s.corrections;
            case 12: return (int) s.moves.stream().filter(move -> move != null).count();
            case 13: return history.size();
            case 14: return text.length();
            default: return BAD;
        }
    }
}
