import java.util.Arrays;

/**
 * Heating accounts of a house. All rows are made once, in constructors, and used again:
 * no call but the constructor makes an object.
 */
public final class HeatBills {
    public static final int UNKNOWN = -1;
    public static final int BAD_VALUE = -2;
    public static final int FULL = -3;
    public static final int NOT_POSSIBLE = -4;
    public static final int NONE = -5;

    private static final int MAX_FLATS = 8;
    private static final int MAX_TENANTS = 2 * MAX_FLATS;
    private static final int MAX_AREA = 200;
    private static final int MAX_DEVICES = 20;
    private static final int MAX_FACTOR = 20;
    private static final int MAX_READING = 9999;
    private static final int MAX_UNITS = MAX_FACTOR * MAX_READING;
    private static final int MAX_CLOSED = 4;
    private static final int MAX_STATES = 4;
    private static final int MAX_TEXT = 60;
    // "0=0;" is the shortest reading with its sign of separation, which the last one lacks
    private static final int MAX_TOLD = (MAX_TEXT + 1) / 4;

    private static final int COST = 0;
    private static final int BASE_SHARE = 1;
    private static final int[] SETTING_LIMITS = {99999, 100, 1};
    private static final int FIRST_BASE_SHARE = 40;
    private static final int HUNDRED = 100;

    private static final int MONTHS = 12;
    private static final int[] MONTH_WEIGHTS =
            {170, 150, 130, 80, 40, 13, 13, 14, 30, 80, 120, 160};
    private static final int THOUSAND = 1000;

    private static final int FAULT_BASE = -100;
    private static final int ANEW_BASE = 1000000;

    private final House now;
    private final House snapshot;
    private boolean hasSnapshot;
    private final History history;
    private final ReadingsText text;
    private final Accounts accounts;

    /** Creates a house without flats, in the year 0. */
    public HeatBills() {
        now = new House();
        snapshot = new House();
        hasSnapshot = false;
        history = new History();
        text = new ReadingsText();
        accounts = new Accounts();
    }

    // ---- the house

    public int addFlat(int area) {
        if (area < 1 || area > MAX_AREA) {
            return BAD_VALUE;
        }
        if (now.flatCount >= MAX_FLATS) {
            return FULL;
        }
        if (now.closedCount > 0) {
            return NOT_POSSIBLE;
        }
        history.remember(now);
        int flat = now.flatCount;
        now.areas[flat] = area;
        now.flatCount = flat + 1;
        return flat;
    }

    public int addDevice(int flat, int factor) {
        if (!now.hasFlat(flat)) {
            return UNKNOWN;
        }
        if (factor < 1 || factor > MAX_FACTOR) {
            return BAD_VALUE;
        }
        if (now.openYear.deviceCount >= MAX_DEVICES) {
            return FULL;
        }
        history.remember(now);
        int device = now.openYear.deviceCount;
        now.deviceFlats[device] = flat;
        now.factors[device] = factor;
        now.openYear.deviceCount = device + 1;
        return device;
    }

    public int set(int what, int value) {
        if (what < 0 || what >= SETTING_LIMITS.length) {
            return BAD_VALUE;
        }
        if (value < 0 || value > SETTING_LIMITS[what]) {
            return BAD_VALUE;
        }
        int previous = now.setting(what);
        if (previous == value) {
            return NONE;
        }
        history.remember(now);
        now.putSetting(what, value);
        return previous;
    }

    public int read(int device, int reading) {
        if (!now.openYear.hasDevice(device)) {
            return UNKNOWN;
        }
        if (reading < 0 || reading > MAX_READING) {
            return BAD_VALUE;
        }
        if (reading < now.beginReadings[device]) {
            return NOT_POSSIBLE;
        }
        if (reading == now.endReadings[device]) {
            return NONE;
        }
        history.remember(now);
        now.endReadings[device] = reading;
        now.countUnits();
        return now.openYear.deviceUnits[device];
    }

    public int mark(int device, boolean faulty) {
        if (!now.openYear.hasDevice(device)) {
            return UNKNOWN;
        }
        if (now.faulty[device] == faulty) {
            return NONE;
        }
        history.remember(now);
        now.faulty[device] = faulty;
        return now.faultyCount();
    }

    public int readAll() {
        if (!text.parse()) {
            return FAULT_BASE - text.at;
        }
        if (!text.namesOnlyDevicesOf(now)) {
            return UNKNOWN;
        }
        if (!text.isPossibleFor(now)) {
            return NOT_POSSIBLE;
        }
        history.remember(now);
        text.tellTo(now);
        return text.toldCount;
    }

    // ---- tenants

    public int move(int flat, int month) {
        if (!now.hasFlat(flat)) {
            return UNKNOWN;
        }
        if (month < 1 || month >= MONTHS) {
            return BAD_VALUE;
        }
        if (now.openYear.hasMove(flat)) {
            return NOT_POSSIBLE;
        }
        history.remember(now);
        now.openYear.moveMonths[flat] = month;
        return weightsAhead(month);
    }

    public int between(int flat, int part) {
        if (!now.hasFlat(flat)) {
            return UNKNOWN;
        }
        if (part < 0 || part > THOUSAND) {
            return BAD_VALUE;
        }
        if (!now.openYear.hasMove(flat)) {
            return NOT_POSSIBLE;
        }
        int previous = now.openYear.parts[flat];
        if (previous == part) {
            return NONE;
        }
        history.remember(now);
        now.openYear.parts[flat] = part;
        return previous == NONE ? 1 : 0;
    }

    // ---- years

    public int close() {
        if (now.closedCount >= MAX_CLOSED) {
            return FULL;
        }
        if (now.flatCount < 1) {
            return NOT_POSSIBLE;
        }
        history.remember(now);
        drawUpOpenYear();
        accounts.splitByTenants(now, now.openYear);
        return now.closeWith(accounts.bills);
    }

    public int correct(int year, int device, int units) {
        Year closed = now.closedYear(year);
        if (closed == null || !closed.hasDevice(device)) {
            return UNKNOWN;
        }
        if (units < 0 || units > MAX_UNITS) {
            return BAD_VALUE;
        }
        if (closed.deviceUnits[device] == units) {
            return NONE;
        }
        history.remember(now);
        now.corrections++;
        closed.deviceUnits[device] = units;
        accounts.drawUp(now, closed);
        accounts.splitByTenants(now, closed);
        return closed.chargeAnew(accounts.bills);
    }

    // ---- texts

    public int type(char character) {
        return text.append(character) ? text.length : FULL;
    }

    public int clearText() {
        int length = text.length;
        text.length = 0;
        return length;
    }

    // ---- history

    public int undo() {
        House latest = history.removeLatest();
        if (latest == null) {
            return NONE;
        }
        now.copyFrom(latest);
        return history.size;
    }

    public int keep() {
        snapshot.copyFrom(now);
        hasSnapshot = true;
        return now.closedCount;
    }

    public int restore() {
        if (!hasSnapshot) {
            return NONE;
        }
        history.remember(now);
        now.copyFrom(snapshot);
        return now.closedCount;
    }

    // ---- what is told

    public int flat(int flat, int what) {
        if (!now.hasFlat(flat)) {
            return UNKNOWN;
        }
        if (what < 0 || what > 7) {
            return BAD_VALUE;
        }
        drawUpOpenYear();
        switch (what) {
            case 0:
                return now.areas[flat];
            case 1:
                return now.devicesAsBits(flat);
            case 2:
                return accounts.flatUnits[flat];
            case 3:
                return accounts.baseCosts[flat];
            case 4:
                return accounts.unitCosts[flat];
            case 5:
                return accounts.billOfFlat(flat);
            case 6:
                return now.openYear.moveMonths[flat];
            default:
                return now.openYear.parts[flat];
        }
    }

    public int device(int device, int what) {
        if (!now.openYear.hasDevice(device)) {
            return UNKNOWN;
        }
        if (what < 0 || what > 5) {
            return BAD_VALUE;
        }
        switch (what) {
            case 0:
                return now.deviceFlats[device];
            case 1:
                return now.factors[device];
            case 2:
                return now.beginReadings[device];
            case 3:
                return now.endReadings[device];
            case 4:
                return now.faulty[device] ? 1 : 0;
            default:
                now.countUnits();
                return now.openYear.deviceUnits[device];
        }
    }

    public int draft(int flat, boolean second) {
        if (!now.hasFlat(flat) || (second && !now.openYear.hasMove(flat))) {
            return UNKNOWN;
        }
        drawUpOpenYear();
        accounts.splitByTenants(now, now.openYear);
        return accounts.bills[tenantOf(flat, second)];
    }

    public int bill(int year, int flat, boolean second, boolean anew) {
        Year closed = now.closedYear(year);
        if (closed == null || !now.hasFlat(flat)) {
            return UNKNOWN;
        }
        if (second && !closed.hasMove(flat)) {
            return UNKNOWN;
        }
        int tenant = tenantOf(flat, second);
        return anew ? ANEW_BASE + closed.chargedAnew[tenant] : closed.bills[tenant];
    }

    public int units(int year, int device) {
        Year closed = now.closedYear(year);
        if (closed == null || !closed.hasDevice(device)) {
            return UNKNOWN;
        }
        return closed.deviceUnits[device];
    }

    public int greatest(int rank) {
        if (rank < 0) {
            return BAD_VALUE;
        }
        drawUpOpenYear();
        for (int flat = 0; flat < now.flatCount; flat++) {
            if (accounts.flatsAheadOf(flat, now.flatCount) == rank) {
                return flat;
            }
        }
        return NONE;
    }

    public int billIf(int flat, int share) {
        if (!now.hasFlat(flat)) {
            return UNKNOWN;
        }
        if (share < 0 || share > HUNDRED) {
            return BAD_VALUE;
        }
        drawUpOpenYear();
        return billWithShare(flat, share);
    }

    public int bestShare(int flat) {
        if (!now.hasFlat(flat)) {
            return UNKNOWN;
        }
        drawUpOpenYear();
        int best = 0;
        int least = billWithShare(flat, 0);
        for (int share = 1; share <= HUNDRED; share++) {
            int bill = billWithShare(flat, share);
            if (bill < least) {
                least = bill;
                best = share;
            }
        }
        return best;
    }

    public int count(int what) {
        switch (what) {
            case 0:
                return now.closedCount;
            case 1:
                return now.flatCount;
            case 2:
                return now.openYear.deviceCount;
            case 3:
                return now.faultyCount();
            case 4:
            case 5:
            case 6:
                return now.setting(what - 4);
            case 7:
                return sumOf(now.areas, now.flatCount);
            case 8:
                drawUpOpenYear();
                return sumOf(accounts.flatUnits, now.flatCount);
            case 9:
                drawUpOpenYear();
                return sumOf(accounts.baseCosts, now.flatCount)
                        + sumOf(accounts.unitCosts, now.flatCount);
            case 10:
                return now.keptBills();
            case 11:
                return now.corrections;
            case 12:
                return now.moveCount();
            case 13:
                return history.size;
            case 14:
                return text.length;
            default:
                return BAD_VALUE;
        }
    }

    private void drawUpOpenYear() {
        now.countUnits();
        accounts.drawUp(now, now.openYear);
    }

    /** Counts on the units of the flats, as drawUpOpenYear() has left them. */
    private int billWithShare(int flat, int share) {
        accounts.shareCost(now, now.openYear.cost, share);
        return accounts.billOfFlat(flat);
    }

    private static int tenantOf(int flat, boolean second) {
        return second ? 2 * flat + 1 : 2 * flat;
    }

    private static int weightsAhead(int month) {
        int sum = 0;
        for (int i = 0; i < month && i < MONTH_WEIGHTS.length; i++) {
            sum += MONTH_WEIGHTS[i];
        }
        return sum;
    }

    private static int sumOf(int[] numbers, int size) {
        int sum = 0;
        for (int i = 0; i < size && i < numbers.length; i++) {
            sum += numbers[i];
        }
        return sum;
    }

    /** A year, open or closed; the open one has no bills yet, and its units are counted anew. */
    private static final class Year {
        int cost;
        int baseShare;
        int deviceCount;
        // both rows hold NONE where nobody moves, or nothing is told in between
        final int[] moveMonths;
        final int[] parts;
        final int[] deviceUnits;
        final int[] bills;
        final int[] chargedAnew;

        Year() {
            cost = 0;
            baseShare = FIRST_BASE_SHARE;
            deviceCount = 0;
            moveMonths = new int[MAX_FLATS];
            parts = new int[MAX_FLATS];
            deviceUnits = new int[MAX_DEVICES];
            bills = new int[MAX_TENANTS];
            chargedAnew = new int[MAX_TENANTS];
            Arrays.fill(moveMonths, NONE);
            Arrays.fill(parts, NONE);
        }

        void copyFrom(Year other) {
            cost = other.cost;
            baseShare = other.baseShare;
            deviceCount = other.deviceCount;
            System.arraycopy(other.moveMonths, 0, moveMonths, 0, MAX_FLATS);
            System.arraycopy(other.parts, 0, parts, 0, MAX_FLATS);
            System.arraycopy(other.deviceUnits, 0, deviceUnits, 0, MAX_DEVICES);
            System.arraycopy(other.bills, 0, bills, 0, MAX_TENANTS);
            System.arraycopy(other.chargedAnew, 0, chargedAnew, 0, MAX_TENANTS);
        }

        void startAnew() {
            cost = 0;
            Arrays.fill(moveMonths, NONE);
            Arrays.fill(parts, NONE);
        }

        boolean hasDevice(int device) {
            return device >= 0 && device < deviceCount;
        }

        boolean hasMove(int flat) {
            return moveMonths[flat] != NONE;
        }

        int thousandthsOfFirst(int flat) {
            return parts[flat] != NONE ? parts[flat] : weightsAhead(moveMonths[flat]);
        }

        /** Takes the new bills, and tells how many of them are others than before. */
        int chargeAnew(int[] newBills) {
            int changed = 0;
            for (int tenant = 0; tenant < MAX_TENANTS; tenant++) {
                int more = newBills[tenant] - bills[tenant];
                if (more != 0) {
                    changed++;
                }
                chargedAnew[tenant] += more;
                bills[tenant] = newBills[tenant];
            }
            return changed;
        }
    }

    /** A state: everything but the text, the history and the snapshot. */
    private static final class House {
        int flatCount;
        final int[] areas;
        final int[] deviceFlats;
        final int[] factors;
        final int[] beginReadings;
        final int[] endReadings;
        final boolean[] faulty;
        int manner;
        int corrections;
        final Year openYear;
        int closedCount;
        final Year[] closedYears;

        House() {
            flatCount = 0;
            areas = new int[MAX_FLATS];
            deviceFlats = new int[MAX_DEVICES];
            factors = new int[MAX_DEVICES];
            beginReadings = new int[MAX_DEVICES];
            endReadings = new int[MAX_DEVICES];
            faulty = new boolean[MAX_DEVICES];
            manner = 0;
            corrections = 0;
            openYear = new Year();
            closedCount = 0;
            closedYears = new Year[MAX_CLOSED];
            for (int i = 0; i < MAX_CLOSED; i++) {
                closedYears[i] = new Year();
            }
        }

        void copyFrom(House other) {
            flatCount = other.flatCount;
            System.arraycopy(other.areas, 0, areas, 0, MAX_FLATS);
            System.arraycopy(other.deviceFlats, 0, deviceFlats, 0, MAX_DEVICES);
            System.arraycopy(other.factors, 0, factors, 0, MAX_DEVICES);
            System.arraycopy(other.beginReadings, 0, beginReadings, 0, MAX_DEVICES);
            System.arraycopy(other.endReadings, 0, endReadings, 0, MAX_DEVICES);
            // arraycopy is for numbers alone
            for (int device = 0; device < MAX_DEVICES; device++) {
                faulty[device] = other.faulty[device];
            }
            manner = other.manner;
            corrections = other.corrections;
            openYear.copyFrom(other.openYear);
            closedCount = other.closedCount;
            for (int i = 0; i < MAX_CLOSED; i++) {
                closedYears[i].copyFrom(other.closedYears[i]);
            }
        }

        boolean hasFlat(int flat) {
            return flat >= 0 && flat < flatCount;
        }

        /** Answers null where no such year was closed. */
        Year closedYear(int year) {
            return year >= 0 && year < closedCount ? closedYears[year] : null;
        }

        int setting(int what) {
            if (what == COST) {
                return openYear.cost;
            }
            return what == BASE_SHARE ? openYear.baseShare : manner;
        }

        void putSetting(int what, int value) {
            if (what == COST) {
                openYear.cost = value;
            } else if (what == BASE_SHARE) {
                openYear.baseShare = value;
            } else {
                manner = value;
            }
        }

        int faultyCount() {
            int sum = 0;
            for (int device = 0; device < openYear.deviceCount; device++) {
                if (faulty[device]) {
                    sum++;
                }
            }
            return sum;
        }

        int moveCount() {
            int sum = 0;
            for (int flat = 0; flat < flatCount; flat++) {
                if (openYear.hasMove(flat)) {
                    sum++;
                }
            }
            return sum;
        }

        int devicesAsBits(int flat) {
            int bits = 0;
            for (int device = 0; device < openYear.deviceCount; device++) {
                if (deviceFlats[device] == flat) {
                    bits |= 1 << device;
                }
            }
            return bits;
        }

        int keptBills() {
            int sum = 0;
            for (int i = 0; i < closedCount; i++) {
                sum += sumOf(closedYears[i].bills, MAX_TENANTS);
            }
            return sum;
        }

        /** The sound ones come first: a faulty one may be estimated by all of them. */
        void countUnits() {
            int soundUnits = 0;
            int soundFactors = 0;
            for (int device = 0; device < openYear.deviceCount; device++) {
                if (!faulty[device]) {
                    int used = endReadings[device] - beginReadings[device];
                    openYear.deviceUnits[device] = used * factors[device];
                    soundUnits += openYear.deviceUnits[device];
                    soundFactors += factors[device];
                }
            }
            for (int device = 0; device < openYear.deviceCount; device++) {
                if (faulty[device]) {
                    openYear.deviceUnits[device] = estimate(device, soundUnits, soundFactors);
                }
            }
        }

        private int estimate(int device, int soundUnits, int soundFactors) {
            Year before = closedYear(closedCount - 1);
            if (manner == 1 && before != null && before.hasDevice(device)) {
                return before.deviceUnits[device];
            }
            return soundFactors > 0 ? factors[device] * soundUnits / soundFactors : 0;
        }

        /** Counts on the units that countUnits() has left; answers the number of the year. */
        int closeWith(int[] bills) {
            int year = closedCount;
            Year kept = closedYears[year];
            kept.copyFrom(openYear);
            System.arraycopy(bills, 0, kept.bills, 0, MAX_TENANTS);
            closedCount = year + 1;
            openYear.startAnew();
            System.arraycopy(endReadings, 0, beginReadings, 0, MAX_DEVICES);
            return year;
        }
    }

    /** Rows in which one year at a time is shared out. */
    private static final class Accounts {
        final int[] flatUnits;
        final int[] baseCosts;
        final int[] unitCosts;
        final int[] bills;
        private final long[] remainders;

        Accounts() {
            flatUnits = new int[MAX_FLATS];
            baseCosts = new int[MAX_FLATS];
            unitCosts = new int[MAX_FLATS];
            bills = new int[MAX_TENANTS];
            remainders = new long[MAX_FLATS];
        }

        void drawUp(House house, Year year) {
            Arrays.fill(flatUnits, 0);
            for (int device = 0; device < year.deviceCount; device++) {
                flatUnits[house.deviceFlats[device]] += year.deviceUnits[device];
            }
            shareCost(house, year.cost, year.baseShare);
        }

        void shareCost(House house, int cost, int baseShare) {
            int baseCost = cost * baseShare / HUNDRED;
            boolean anyUnits = sumOf(flatUnits, house.flatCount) > 0;
            shareByParts(baseCost, house.areas, house.flatCount, baseCosts);
            shareByParts(cost - baseCost, anyUnits ? flatUnits : house.areas,
                    house.flatCount, unitCosts);
        }

        private void shareByParts(int amount, int[] parts, int size, int[] shares) {
            int allParts = sumOf(parts, size);
            if (allParts < 1) {
                return;
            }
            int left = amount;
            for (int i = 0; i < size; i++) {
                // coins times units of a whole house don't fit an int
                long product = (long) amount * parts[i];
                shares[i] = (int) (product / allParts);
                remainders[i] = product % allParts;
                left -= shares[i];
            }
            for (int coin = 0; coin < left; coin++) {
                giveCoin(shares, size);
            }
        }

        private void giveCoin(int[] shares, int size) {
            int best = 0;
            for (int i = 1; i < size; i++) {
                if (remainders[i] > remainders[best]) {
                    best = i;
                }
            }
            shares[best]++;
            // so that nobody gets a second one
            remainders[best] = -1;
        }

        void splitByTenants(House house, Year year) {
            Arrays.fill(bills, 0);
            for (int flat = 0; flat < house.flatCount; flat++) {
                int whole = billOfFlat(flat);
                int first = year.hasMove(flat) ? billOfFirst(year, flat) : whole;
                bills[tenantOf(flat, false)] = first;
                bills[tenantOf(flat, true)] = whole - first;
            }
        }

        private int billOfFirst(Year year, int flat) {
            int ofBase = baseCosts[flat] * year.moveMonths[flat] / MONTHS;
            int ofUnits = unitCosts[flat] * year.thousandthsOfFirst(flat) / THOUSAND;
            return ofBase + ofUnits;
        }

        int billOfFlat(int flat) {
            return baseCosts[flat] + unitCosts[flat];
        }

        int flatsAheadOf(int flat, int size) {
            int ahead = 0;
            for (int other = 0; other < size; other++) {
                boolean sameButLower = unitCosts[other] == unitCosts[flat] && other < flat;
                if (unitCosts[other] > unitCosts[flat] || sameButLower) {
                    ahead++;
                }
            }
            return ahead;
        }
    }

    /** The latest states, in a ring. */
    private static final class History {
        private final House[] states;
        private int oldest;
        int size;

        History() {
            states = new House[MAX_STATES];
            for (int i = 0; i < MAX_STATES; i++) {
                states[i] = new House();
            }
            oldest = 0;
            size = 0;
        }

        void remember(House house) {
            // in a full ring, this is the place of the oldest one
            states[(oldest + size) % MAX_STATES].copyFrom(house);
            if (size < MAX_STATES) {
                size++;
            } else {
                oldest = (oldest + 1) % MAX_STATES;
            }
        }

        /** Answers null if there is none. */
        House removeLatest() {
            if (size < 1) {
                return null;
            }
            size--;
            return states[(oldest + size) % MAX_STATES];
        }
    }

    /** The text, and the readings that parse() finds in it. */
    private static final class ReadingsText {
        private final char[] characters;
        int length;
        int at;
        private int number;
        int toldCount;
        private final int[] toldDevices;
        // NONE for "?"
        private final int[] toldReadings;

        ReadingsText() {
            characters = new char[MAX_TEXT];
            length = 0;
            at = 0;
            number = 0;
            toldCount = 0;
            toldDevices = new int[MAX_TOLD];
            toldReadings = new int[MAX_TOLD];
        }

        boolean append(char character) {
            if (length >= MAX_TEXT) {
                return false;
            }
            characters[length] = character;
            length++;
            return true;
        }

        /** Answers whether the text has no fault; if it has one, 'at' is its place. */
        boolean parse() {
            at = 0;
            toldCount = 0;
            for (int i = 0; i < MAX_TOLD; i++) {
                if (!takeReading(i)) {
                    return false;
                }
                toldCount = i + 1;
                if (at == length) {
                    return true;
                }
                if (!take(';')) {
                    return false;
                }
            }
            // so many readings, each with a ";", fill the text: it ends too early
            return false;
        }

        private boolean takeReading(int i) {
            if (!takeNumber(MAX_DEVICES - 1)) {
                return false;
            }
            toldDevices[i] = number;
            if (!take('=')) {
                return false;
            }
            if (take('?')) {
                toldReadings[i] = NONE;
                return true;
            }
            if (!takeNumber(MAX_READING)) {
                return false;
            }
            toldReadings[i] = number;
            return true;
        }

        private boolean take(char wanted) {
            if (at >= length || characters[at] != wanted) {
                return false;
            }
            at++;
            return true;
        }

        /** Stops ahead of a digit that isn't allowed: nothing else takes it, so it's the fault. */
        private boolean takeNumber(int limit) {
            if (!isAtDigit()) {
                return false;
            }
            number = digit();
            at++;
            for (int taken = 1; taken < MAX_TEXT && isDigitFitting(limit); taken++) {
                number = 10 * number + digit();
                at++;
            }
            return true;
        }

        private boolean isDigitFitting(int limit) {
            return isAtDigit() && number > 0 && 10 * number + digit() <= limit;
        }

        /** Asks for a place with a digit. */
        private int digit() {
            return characters[at] - '0';
        }

        private boolean isAtDigit() {
            return at < length && characters[at] >= '0' && characters[at] <= '9';
        }

        boolean namesOnlyDevicesOf(House house) {
            for (int i = 0; i < toldCount; i++) {
                if (!house.openYear.hasDevice(toldDevices[i])) {
                    return false;
                }
            }
            return true;
        }

        boolean isPossibleFor(House house) {
            for (int i = 0; i < toldCount; i++) {
                boolean isFaulty = toldReadings[i] == NONE;
                if (!isFaulty && toldReadings[i] < house.beginReadings[toldDevices[i]]) {
                    return false;
                }
            }
            return true;
        }

        void tellTo(House house) {
            for (int i = 0; i < toldCount; i++) {
                int device = toldDevices[i];
                house.faulty[device] = toldReadings[i] == NONE;
                if (toldReadings[i] != NONE) {
                    house.endReadings[device] = toldReadings[i];
                }
            }
        }
    }
}
