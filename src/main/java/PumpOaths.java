/**
 * Pumps that fill a tank and have sworn how often they start in an hour.
 *
 * <p>All rows are made when the object is made and used again by every call: the saved states and
 * the trial of the what-if questions are stations of their own into which the state is copied.
 */
public final class PumpOaths {

    public static final int NONE = -1;

    private static final int MOST_SAVED = 4;
    private static final int MOST_MINUTES = 1440;
    private static final int MOST_OATH = 12;
    private static final int DIGEST_START = 3673;
    private static final int SYNTAX_ERROR = -10;

    private final Station now = new Station();
    private final Station trial = new Station();
    private final Station latest = new Station();
    private final Station second = new Station();
    private final Station third = new Station();
    private final Station oldest = new Station();
    private final OrderText text = new OrderText();
    private int saved;

    public PumpOaths() {
        saved = 0;
    }

    // ---- station

    public int setSize(int size) throws IllegalArgumentException, IllegalStateException {
        if (!isIn(size, 100, 100000)) {
            throw new IllegalArgumentException("size is out of range");
        }
        if (now.level > size || now.high > size) {
            throw new IllegalStateException("the level or the band is above the size");
        }
        save();
        int before = now.size;
        now.size = size;
        return before;
    }

    public int setBand(int low, int high) throws IllegalArgumentException, IllegalStateException {
        if (low < 1 || high <= low) {
            throw new IllegalArgumentException("this is no band");
        }
        if (high > now.size) {
            throw new IllegalStateException("the band is above the size");
        }
        save();
        int before = now.high - now.low;
        now.low = low;
        now.high = high;
        return before;
    }

    public int setLevel(int level) throws IllegalArgumentException, IllegalStateException {
        if (level < 0) {
            throw new IllegalArgumentException("level is negative");
        }
        if (level > now.size) {
            throw new IllegalStateException("the level is above the size");
        }
        save();
        int before = now.level;
        now.level = level;
        return before;
    }

    public int set(int what, int value) throws IllegalArgumentException {
        if (!Station.isSettingValue(what, value)) {
            throw new IllegalArgumentException("what or value is out of range");
        }
        save();
        return now.changeSetting(what, value);
    }

    public int setDemand(int hour, int demand) throws IndexOutOfBoundsException, IllegalArgumentException {
        if (!isHour(hour)) {
            throw new IndexOutOfBoundsException("there is no such hour");
        }
        if (!isIn(demand, 0, Station.MOST_DEMAND)) {
            throw new IllegalArgumentException("demand is out of range");
        }
        save();
        return now.changeDemand(hour, demand);
    }

    public int addPump(int capacity, int oath) throws IllegalArgumentException, IllegalStateException {
        if (!isIn(capacity, 1, 500) || !isOath(oath)) {
            throw new IllegalArgumentException("an argument is out of range");
        }
        if (now.pumps.count >= Pumps.MOST) {
            throw new IllegalStateException("there are 6 pumps");
        }
        save();
        return now.pumps.join(capacity, oath);
    }

    public int swear(int pump, int oath) throws IndexOutOfBoundsException, IllegalArgumentException {
        if (!isPump(pump)) {
            throw new IndexOutOfBoundsException("there is no such pump");
        }
        if (!isOath(oath)) {
            throw new IllegalArgumentException("oath is out of range");
        }
        save();
        int before = now.pumps.oath[pump];
        now.pumps.oath[pump] = oath;
        return before;
    }

    public boolean service(int pump, boolean service) throws IndexOutOfBoundsException, IllegalStateException {
        if (!isPump(pump)) {
            throw new IndexOutOfBoundsException("there is no such pump");
        }
        if (isInService(pump) == service) {
            throw new IllegalStateException("it is so already");
        }
        save();
        boolean wasOn = now.pumps.mode[pump] == Pumps.ON;
        now.pumps.mode[pump] = service ? Pumps.OFF : Pumps.OUT;
        return wasOn;
    }

    public int pass(int minutes) throws IllegalArgumentException, IllegalStateException {
        if (!isIn(minutes, 1, MOST_MINUTES)) {
            throw new IllegalArgumentException("minutes is out of range");
        }
        if (!hasTimeFor(minutes)) {
            throw new IllegalStateException("the time would be too great");
        }
        save();
        int before = now.brokenOaths;
        now.letPass(minutes);
        return now.brokenOaths - before;
    }

    // ---- values

    public int pump(int pump, int what) throws IndexOutOfBoundsException, IllegalArgumentException {
        if (!isPump(pump)) {
            throw new IndexOutOfBoundsException("there is no such pump");
        }
        if (!isIn(what, 0, Pumps.FACTS - 1)) {
            throw new IllegalArgumentException("what is out of range");
        }
        return now.pumps.fact(pump, what);
    }

    public int demand(int hour) throws IndexOutOfBoundsException {
        if (!isHour(hour)) {
            throw new IndexOutOfBoundsException("there is no such hour");
        }
        return now.demandAt(hour);
    }

    public int value(int what) throws IllegalArgumentException {
        if (!isIn(what, 0, Station.NUMBERS - 1)) {
            throw new IllegalArgumentException("what is out of range");
        }
        return now.numberAt(what);
    }

    public int setting(int what) throws IllegalArgumentException {
        if (!isIn(what, 0, Station.SETTINGS - 1)) {
            throw new IllegalArgumentException("what is out of range");
        }
        return now.settingAt(what);
    }

    public long water(int what) throws IllegalArgumentException {
        if (!isIn(what, 0, Station.WATERS - 1)) {
            throw new IllegalArgumentException("what is out of range");
        }
        return now.waterAt(what);
    }

    public long nightLeak() throws IllegalStateException {
        if (now.nights == 0) {
            throw new IllegalStateException("no night was measured");
        }
        return now.measuredLeak;
    }

    public int entry(int index, int what) throws IndexOutOfBoundsException, IllegalArgumentException {
        if (!isIn(index, 0, now.log.count - 1)) {
            throw new IndexOutOfBoundsException("not so many entries are kept");
        }
        if (!isIn(what, 0, BreachLog.PARTS - 1)) {
            throw new IllegalArgumentException("what is out of range");
        }
        return now.log.part(index, what);
    }

    // ---- what if

    public int levelIn(int minutes) throws IllegalArgumentException {
        if (!isIn(minutes, 0, MOST_MINUTES)) {
            throw new IllegalArgumentException("minutes is out of range");
        }
        trial.become(now);
        trial.letPass(minutes);
        return trial.level;
    }

    public int startsIn(int pump, int minutes) throws IndexOutOfBoundsException, IllegalArgumentException {
        if (!isPump(pump)) {
            throw new IndexOutOfBoundsException("there is no such pump");
        }
        if (!isIn(minutes, 0, MOST_MINUTES)) {
            throw new IllegalArgumentException("minutes is out of range");
        }
        trial.become(now);
        trial.letPass(minutes);
        return trial.pumps.starts[pump] - now.pumps.starts[pump];
    }

    public int oathFor(int minutes) throws IllegalArgumentException {
        if (!isIn(minutes, 1, MOST_MINUTES)) {
            throw new IllegalArgumentException("minutes is out of range");
        }
        for (int oath = 1; oath <= MOST_OATH; oath++) {
            if (wouldBeKept(oath, minutes)) {
                return oath;
            }
        }
        return NONE;
    }

    public int emptyIn() {
        trial.become(now);
        trial.pumps.takeAllOut();
        for (int minutes = 0; minutes <= MOST_MINUTES; minutes++) {
            if (trial.level == 0) {
                return minutes;
            }
            trial.passMinute();
        }
        return NONE;
    }

    public int nextStart() {
        trial.become(now);
        for (int minute = 0; minute < MOST_MINUTES; minute++) {
            int started = trial.passMinute();
            if (started != NONE) {
                return started;
            }
        }
        return NONE;
    }

    public double honesty() {
        int starts = now.pumps.allStarts();
        if (starts == 0) {
            return 1.0;
        }
        return (double) (starts - now.brokenOaths) / (double) starts;
    }

    // ---- text

    public int append(int value) throws IllegalArgumentException, IllegalStateException {
        if (!isIn(value, 0, 127)) {
            throw new IllegalArgumentException("value is out of range");
        }
        if (text.length >= OrderText.MOST_BYTES) {
            throw new IllegalStateException("the text is full");
        }
        text.addByte(value);
        return text.length;
    }

    public int clearText() {
        int before = text.length;
        text.length = 0;
        return before;
    }

    public int carryOut() {
        int error = text.readOrders();
        if (error != NONE) {
            return SYNTAX_ERROR - error;
        }
        save();
        for (int order = 0; order < text.orders; order++) {
            if (!carriesOut(order)) {
                return order;
            }
        }
        return text.orders;
    }

    // ---- state

    public int undo() throws IllegalStateException {
        if (saved == 0) {
            throw new IllegalStateException("there is no saved state");
        }
        now.become(latest);
        latest.become(second);
        second.become(third);
        third.become(oldest);
        saved--;
        return saved;
    }

    public long digest() {
        long hash = 31L * DIGEST_START + text.length;
        hash = now.digestOnto(hash);
        return 31L * hash + saved;
    }

    // ---- what the calls share

    private void save() {
        oldest.become(third);
        third.become(second);
        second.become(latest);
        latest.become(now);
        if (saved < MOST_SAVED) {
            saved++;
        }
    }

    private static boolean isIn(int value, int least, int greatest) {
        return value >= least && value <= greatest;
    }

    private static boolean isHour(int hour) {
        return isIn(hour, 0, Station.HOURS - 1);
    }

    private static boolean isOath(int oath) {
        return isIn(oath, 1, MOST_OATH);
    }

    private boolean isPump(int pump) {
        return now.pumps.has(pump);
    }

    private boolean isInService(int pump) {
        return isPump(pump) && now.pumps.mode[pump] != Pumps.OUT;
    }

    private boolean hasTimeFor(int minutes) {
        return now.time + minutes <= Station.MOST_TIME;
    }

    private boolean wouldBeKept(int oath, int minutes) {
        trial.become(now);
        trial.pumps.swearAll(oath);
        for (int minute = 0; minute < minutes; minute++) {
            trial.passMinute();
            if (trial.brokenOaths != now.brokenOaths) {
                return false;
            }
        }
        return true;
    }

    /** Carries out one order, unless the call that it stands for would throw an exception. */
    private boolean carriesOut(int order) {
        int subject = text.part(order, OrderText.SUBJECT);
        int number = text.part(order, OrderText.NUMBER);
        switch (text.part(order, OrderText.LETTER)) {
            case 'm':
                if (!hasTimeFor(number)) {
                    return false;
                }
                now.letPass(number);
                return true;
            case 'o':
                if (!isPump(subject)) {
                    return false;
                }
                now.pumps.oath[subject] = number;
                return true;
            case 'x':
                if (!isPump(subject) || !isInService(subject)) {
                    return false;
                }
                now.pumps.mode[subject] = Pumps.OUT;
                return true;
            case 'y':
                if (!isPump(subject) || isInService(subject)) {
                    return false;
                }
                now.pumps.mode[subject] = Pumps.OFF;
                return true;
            default:
                now.changeDemand(subject, number);
                return true;
        }
    }

    /** Everything that a saved state holds, and what a minute does to it. */
    private static final class Station {

        static final int HOURS = 24;
        static final int SETTINGS = 3;
        static final int WATERS = 5;
        static final int NUMBERS = 14;
        static final int MOST_DEMAND = 1000;
        static final int MOST_TIME = 1000000;

        private static final int STEP = 0;
        private static final int LEAK = 1;
        private static final int FORCE = 2;
        private static final int[] LEAST_SETTING = {1, 0, 0};
        private static final int[] GREATEST_SETTING = {5000, 100, 1};

        private static final int PUMPED = 0;
        private static final int OVERFLOWED = 1;
        private static final int TAKEN = 2;
        private static final int LACKING = 3;
        private static final int LEAKED = 4;

        private static final int HOUR = 60;
        private static final int DAY = 1440;
        private static final int FIRST_OF_NIGHT = 22 * HOUR;
        private static final int LAST_OF_NIGHT = 6 * HOUR - 1;

        int size = 10000;
        int level = 5000;
        int low = 4000;
        int high = 8000;
        int time;
        int brokenOaths;
        int minutesBelow;
        int nights;
        long balanceAtDusk;
        long measuredLeak;
        final int[] settings = new int[SETTINGS];
        final int[] demands = new int[HOURS];
        final long[] waters = new long[WATERS];
        final Pumps pumps = new Pumps();
        final BreachLog log = new BreachLog();

        Station() {
            settings[STEP] = 500;
            settings[FORCE] = 1;
            for (int hour = 0; hour < HOURS; hour++) {
                demands[hour] = 20;
            }
        }

        void become(Station other) {
            size = other.size;
            level = other.level;
            low = other.low;
            high = other.high;
            time = other.time;
            brokenOaths = other.brokenOaths;
            minutesBelow = other.minutesBelow;
            nights = other.nights;
            balanceAtDusk = other.balanceAtDusk;
            measuredLeak = other.measuredLeak;
            System.arraycopy(other.settings, 0, settings, 0, SETTINGS);
            System.arraycopy(other.demands, 0, demands, 0, HOURS);
            System.arraycopy(other.waters, 0, waters, 0, WATERS);
            pumps.become(other.pumps);
            log.become(other.log);
        }

        static boolean isSettingValue(int what, int value) {
            return what >= 0 && what < SETTINGS
                    && value >= LEAST_SETTING[what] && value <= GREATEST_SETTING[what];
        }

        int settingAt(int what) {
            return what >= 0 && what < SETTINGS ? settings[what] : 0;
        }

        int demandAt(int hour) {
            return hour >= 0 && hour < HOURS ? demands[hour] : 0;
        }

        int changeSetting(int what, int value) {
            int before = settingAt(what);
            if (what >= 0 && what < SETTINGS) {
                settings[what] = value;
            }
            return before;
        }

        int changeDemand(int hour, int demand) {
            int before = demandAt(hour);
            if (hour >= 0 && hour < HOURS) {
                demands[hour] = demand;
            }
            return before;
        }

        long waterAt(int what) {
            return what >= 0 && what < WATERS ? waters[what] : 0L;
        }

        int numberAt(int what) {
            switch (what) {
                case 0: return size;
                case 1: return level;
                case 2: return low;
                case 3: return high;
                case 4: return pumps.count;
                case 5: return pumps.countIn(Pumps.ON);
                case 6: return pumps.countIn(Pumps.OUT);
                case 7: return time;
                case 8: return hourNow();
                case 9: return brokenOaths;
                case 10: return minutesBelow;
                case 11: return pumps.lead();
                case 12: return nights;
                default: return log.count;
            }
        }

        void letPass(int minutes) {
            for (int minute = 0; minute < minutes; minute++) {
                passMinute();
            }
        }

        /** Answers the pump that started, or NONE. */
        int passMinute() {
            int minuteOfDay = time % DAY;
            if (minuteOfDay == FIRST_OF_NIGHT) {
                balanceAtDusk = balance();
            }
            if (time % HOUR == 0) {
                pumps.beginHour();
            }
            int started = switchPumps();
            moveWater();
            if (level < low) {
                minutesBelow++;
            }
            // The time 0 lies within a night: its last minute is the end of no whole night.
            if (minuteOfDay == LAST_OF_NIGHT && time > DAY) {
                measuredLeak = balance() - balanceAtDusk;
                nights++;
            }
            time++;
            return started;
        }

        private int hourNow() {
            return time / HOUR % HOURS;
        }

        /** Only a leak, and a level that is set by a call, change this sum. */
        private long balance() {
            return waters[PUMPED] - waters[OVERFLOWED] - waters[TAKEN] - level;
        }

        private int switchPumps() {
            if (level >= high) {
                pumps.stopAll();
                return NONE;
            }
            if (pumps.countIn(Pumps.ON) >= wanted()) {
                return NONE;
            }
            int pump = pumps.nextToStart(settings[FORCE] == 1);
            if (!pumps.has(pump)) {
                return NONE;
            }
            if (pumps.start(pump)) {
                brokenOaths++;
                log.put(pump, time, pumps.hourStarts[pump]);
            }
            return pump;
        }

        private int wanted() {
            int stages = 0;
            for (int k = 0; k < pumps.count; k++) {
                if (level < low - k * settings[STEP]) {
                    stages++;
                }
            }
            return stages;
        }

        private void moveWater() {
            int pumped = pumps.runMinute();
            int overflow = Math.max(0, level + pumped - size);
            level += pumped - overflow;
            int demand = demandAt(hourNow());
            int taken = Math.min(demand, level);
            level -= taken;
            int leaked = Math.min(settings[LEAK], level);
            level -= leaked;
            waters[PUMPED] += pumped;
            waters[OVERFLOWED] += overflow;
            waters[TAKEN] += taken;
            waters[LACKING] += demand - taken;
            waters[LEAKED] += leaked;
        }

        long digestOnto(long start) {
            long hash = start;
            for (int what = 0; what < NUMBERS; what++) {
                hash = 31 * hash + numberAt(what);
            }
            for (int what = 0; what < SETTINGS; what++) {
                hash = 31 * hash + settings[what];
            }
            for (int hour = 0; hour < HOURS; hour++) {
                hash = 31 * hash + demands[hour];
            }
            for (int what = 0; what < WATERS; what++) {
                hash = 31 * hash + waters[what];
            }
            // Before the first night was measured this is still 0, as the digest wants it.
            hash = 31 * hash + measuredLeak;
            hash = pumps.digestOnto(hash);
            return log.digestOnto(hash);
        }
    }

    /** The pumps in rows. Each one knows its place, so that no order has to be kept beside them. */
    private static final class Pumps {

        static final int MOST = 6;
        static final int FACTS = 8;

        static final int OFF = 0;
        static final int ON = 1;
        static final int OUT = 2;

        int count;
        final int[] capacity = new int[MOST];
        final int[] oath = new int[MOST];
        final int[] mode = new int[MOST];
        final int[] place = new int[MOST];
        final int[] hourStarts = new int[MOST];
        final int[] starts = new int[MOST];
        final int[] minutes = new int[MOST];
        final int[] broken = new int[MOST];

        void become(Pumps other) {
            count = other.count;
            System.arraycopy(other.capacity, 0, capacity, 0, MOST);
            System.arraycopy(other.oath, 0, oath, 0, MOST);
            System.arraycopy(other.mode, 0, mode, 0, MOST);
            System.arraycopy(other.place, 0, place, 0, MOST);
            System.arraycopy(other.hourStarts, 0, hourStarts, 0, MOST);
            System.arraycopy(other.starts, 0, starts, 0, MOST);
            System.arraycopy(other.minutes, 0, minutes, 0, MOST);
            System.arraycopy(other.broken, 0, broken, 0, MOST);
        }

        boolean has(int pump) {
            return pump >= 0 && pump < count;
        }

        /** The rows behind the last pump still hold what a new one begins with: nothing but zeros. */
        int join(int newCapacity, int newOath) {
            int pump = count;
            if (pump >= MOST) {
                return NONE;
            }
            capacity[pump] = newCapacity;
            oath[pump] = newOath;
            place[pump] = pump;
            count++;
            return pump;
        }

        int fact(int pump, int what) {
            if (!has(pump)) {
                return 0;
            }
            switch (what) {
                case 0: return capacity[pump];
                case 1: return oath[pump];
                case 2: return mode[pump];
                case 3: return place[pump];
                case 4: return hourStarts[pump];
                case 5: return starts[pump];
                case 6: return minutes[pump];
                default: return broken[pump];
            }
        }

        int countIn(int wantedMode) {
            int found = 0;
            for (int pump = 0; pump < count; pump++) {
                if (mode[pump] == wantedMode) {
                    found++;
                }
            }
            return found;
        }

        int allStarts() {
            int sum = 0;
            for (int pump = 0; pump < count; pump++) {
                sum += starts[pump];
            }
            return sum;
        }

        int lead() {
            for (int pump = 0; pump < count; pump++) {
                if (place[pump] == 0) {
                    return pump;
                }
            }
            return NONE;
        }

        void swearAll(int newOath) {
            for (int pump = 0; pump < count; pump++) {
                oath[pump] = newOath;
            }
        }

        void takeAllOut() {
            for (int pump = 0; pump < count; pump++) {
                mode[pump] = OUT;
            }
        }

        void beginHour() {
            for (int pump = 0; pump < count; pump++) {
                hourStarts[pump] = 0;
            }
        }

        void stopAll() {
            boolean stopped = false;
            for (int pump = 0; pump < count; pump++) {
                if (mode[pump] == ON) {
                    mode[pump] = OFF;
                    stopped = true;
                }
            }
            if (stopped) {
                passLeadOn();
            }
        }

        private void passLeadOn() {
            for (int pump = 0; pump < count; pump++) {
                place[pump] = place[pump] == 0 ? count - 1 : place[pump] - 1;
            }
        }

        int nextToStart(boolean force) {
            int pump = firstOff(true);
            return pump == NONE && force ? firstOff(false) : pump;
        }

        private int firstOff(boolean keepingOath) {
            int first = NONE;
            int firstPlace = MOST;
            for (int pump = 0; pump < count; pump++) {
                boolean fits = !keepingOath || hourStarts[pump] < oath[pump];
                if (mode[pump] == OFF && fits && place[pump] < firstPlace) {
                    first = pump;
                    firstPlace = place[pump];
                }
            }
            return first;
        }

        /** Answers whether the pump breaks its oath with it. */
        boolean start(int pump) {
            if (!has(pump)) {
                return false;
            }
            boolean breaks = hourStarts[pump] >= oath[pump];
            mode[pump] = ON;
            hourStarts[pump]++;
            starts[pump]++;
            if (breaks) {
                broken[pump]++;
            }
            return breaks;
        }

        /** Answers what the pumps that are on pump in a minute. */
        int runMinute() {
            int pumped = 0;
            for (int pump = 0; pump < count; pump++) {
                if (mode[pump] == ON) {
                    minutes[pump]++;
                    pumped += capacity[pump];
                }
            }
            return pumped;
        }

        long digestOnto(long start) {
            long hash = start;
            for (int pump = 0; pump < count; pump++) {
                for (int what = 0; what < FACTS; what++) {
                    hash = 31 * hash + fact(pump, what);
                }
            }
            return hash;
        }
    }

    /** The latest broken oaths, the latest one first. */
    private static final class BreachLog {

        static final int PARTS = 3;
        private static final int MOST = 12;

        private final int[] parts = new int[MOST * PARTS];
        int count;

        void become(BreachLog other) {
            count = other.count;
            System.arraycopy(other.parts, 0, parts, 0, MOST * PARTS);
        }

        void put(int pump, int minute, int starts) {
            System.arraycopy(parts, 0, parts, PARTS, (MOST - 1) * PARTS);
            parts[0] = pump;
            parts[1] = minute;
            parts[2] = starts;
            if (count < MOST) {
                count++;
            }
        }

        int part(int index, int what) {
            int at = index * PARTS + what;
            return at >= 0 && at < parts.length ? parts[at] : 0;
        }

        long digestOnto(long start) {
            long hash = start;
            for (int at = 0; at < count * PARTS && at < parts.length; at++) {
                hash = 31 * hash + parts[at];
            }
            return hash;
        }
    }

    /** The text, and the orders that were read from it. */
    private static final class OrderText {

        static final int MOST_BYTES = 100;
        static final int LETTER = 0;
        static final int SUBJECT = 1;
        static final int NUMBER = 2;

        private static final int PARTS = 3;
        // The shortest order has three bytes; what is left behind 33 of them begins one more.
        private static final int MOST_ORDERS = 34;
        private static final int END = -1;

        private final int[] bytes = new int[MOST_BYTES];
        private final int[] parts = new int[MOST_ORDERS * PARTS];
        int length;
        int orders;
        private int at;
        private int error;

        void addByte(int value) {
            if (length >= 0 && length < bytes.length) {
                bytes[length] = value;
                length++;
            }
        }

        int part(int order, int what) {
            int index = order * PARTS + what;
            return index >= 0 && index < parts.length ? parts[index] : 0;
        }

        /** Answers the syntax error position, or NONE. */
        int readOrders() {
            at = 0;
            error = NONE;
            orders = 0;
            for (int order = 0; order < MOST_ORDERS && at < length && error == NONE; order++) {
                readOrder(order);
                orders++;
            }
            return error;
        }

        private void readOrder(int order) {
            int letter = peek();
            int subject = NONE;
            int number = NONE;
            at++;
            switch (letter) {
                case 'm':
                    number = readNumber(3, 1, 720);
                    break;
                case 'o':
                    subject = readPump();
                    expect('=');
                    number = readNumber(2, 1, MOST_OATH);
                    break;
                case 'x':
                case 'y':
                    subject = readPump();
                    break;
                case 'd':
                    subject = readHour();
                    expect('=');
                    number = readNumber(4, 0, Station.MOST_DEMAND);
                    break;
                default:
                    fail(at - 1);
                    break;
            }
            expect(';');
            keep(order, letter, subject, number);
        }

        private void keep(int order, int letter, int subject, int number) {
            int index = order * PARTS;
            if (index >= 0 && index + NUMBER < parts.length) {
                parts[index + LETTER] = letter;
                parts[index + SUBJECT] = subject;
                parts[index + NUMBER] = number;
            }
        }

        private int peek() {
            return at >= 0 && at < length && at < bytes.length ? bytes[at] : END;
        }

        private boolean isAtDigit() {
            int sign = peek();
            return sign >= '0' && sign <= '9';
        }

        /** Only the first error counts: what is read behind it means nothing. */
        private void fail(int position) {
            if (error == NONE) {
                error = position;
            }
        }

        private void expect(int sign) {
            if (peek() != sign) {
                fail(at);
            }
            at++;
        }

        private int readPump() {
            int pump = peek() - '0';
            if (pump < 0 || pump >= Pumps.MOST) {
                fail(at);
            }
            at++;
            return pump;
        }

        private int readHour() {
            int first = at;
            int hour = 10 * readDigit();
            hour += readDigit();
            if (hour >= Station.HOURS) {
                fail(first);
            }
            return hour;
        }

        private int readDigit() {
            if (!isAtDigit()) {
                fail(at);
            }
            int digit = peek() - '0';
            at++;
            return digit;
        }

        private int readNumber(int mostDigits, int least, int greatest) {
            int first = at;
            int number = 0;
            for (int digits = 0; digits < mostDigits && isAtDigit(); digits++) {
                number = 10 * number + peek() - '0';
                at++;
            }
            if (at == first || isAtDigit()) {
                fail(at);
            }
            if (number < least || number > greatest) {
                fail(first);
            }
            return number;
        }
    }
}
