import java.util.ArrayList;
import java.util.Arrays;
import java.util.List;
import java.util.regex.Matcher;
import java.util.regex.Pattern;

/**
 * The document once more, written as plainly as the library allows and in another form than the
 * class: an order of pumps, sums of the night, a growing log, an endless row of saved states.
 */
final class Model {

    private static final class Pump {
        int number, capacity, oath, hourStarts, starts, minutes, broken;
        boolean on, out;

        Pump copy() {
            Pump p = new Pump();
            p.number = number;
            p.capacity = capacity;
            p.oath = oath;
            p.hourStarts = hourStarts;
            p.starts = starts;
            p.minutes = minutes;
            p.broken = broken;
            p.on = on;
            p.out = out;
            return p;
        }
    }

    private static final Pattern ORDERS =
            Pattern.compile("(?:m[0-9]{1,3};|o[0-5]=[0-9]{1,2};|[xy][0-5];|d[0-9]{2}=[0-9]{1,4};)*");
    private static final Pattern NUMBERS =
            Pattern.compile("m([0-9]{1,3})|o[0-5]=([0-9]{1,2})|(?<=d[0-9]{2}=)([0-9]{1,4})|d([0-9]{2})");
    private static final int[] LEAST = {0, 1, 1, 0, 0};
    private static final int[] GREATEST = {0, 720, 12, 1000, 23};

    private final StringBuilder text = new StringBuilder();
    private final List<Model> saves = new ArrayList<>();

    private int size = 10000, level = 5000, low = 4000, high = 8000, time, below, nights;
    private int[] settings = {500, 0, 1};
    private int[] demands = new int[24];
    private long[] water = new long[5];
    private List<Pump> order = new ArrayList<>();
    private List<int[]> log = new ArrayList<>();
    private long nightLeak, levelAtDusk, inNight;
    private boolean nightBegan;

    Model() {
        Arrays.fill(demands, 20);
    }

    private Model copy() {
        Model m = new Model();
        m.take(this);
        return m;
    }

    private void take(Model o) {
        size = o.size;
        level = o.level;
        low = o.low;
        high = o.high;
        time = o.time;
        below = o.below;
        nights = o.nights;
        settings = o.settings.clone();
        demands = o.demands.clone();
        water = o.water.clone();
        order = new ArrayList<>();
        for (Pump p : o.order) {
            order.add(p.copy());
        }
        log = new ArrayList<>(o.log);
        nightLeak = o.nightLeak;
        levelAtDusk = o.levelAtDusk;
        inNight = o.inNight;
        nightBegan = o.nightBegan;
    }

    private void save() {
        saves.add(copy());
        if (saves.size() > 4) {
            saves.remove(0);
        }
    }

    private Pump numbered(int pump) {
        for (Pump p : order) {
            if (p.number == pump) {
                return p;
            }
        }
        throw new IndexOutOfBoundsException();
    }

    private static void argument(boolean right) {
        if (!right) {
            throw new IllegalArgumentException();
        }
    }

    private static void state(boolean right) {
        if (!right) {
            throw new IllegalStateException();
        }
    }

    private static void index(boolean right) {
        if (!right) {
            throw new IndexOutOfBoundsException();
        }
    }

    int setSize(int to) {
        argument(to >= 100 && to <= 100000);
        state(level <= to && high <= to);
        save();
        int before = size;
        size = to;
        return before;
    }

    int setBand(int toLow, int toHigh) {
        argument(toLow >= 1 && toHigh > toLow);
        state(toHigh <= size);
        save();
        int before = high - low;
        low = toLow;
        high = toHigh;
        return before;
    }

    int setLevel(int to) {
        argument(to >= 0);
        state(to <= size);
        save();
        int before = level;
        level = to;
        return before;
    }

    int set(int what, int to) {
        argument(what == 0 && to >= 1 && to <= 5000 || what == 1 && to >= 0 && to <= 100 || what == 2 && (to == 0 || to == 1));
        save();
        int before = settings[what];
        settings[what] = to;
        return before;
    }

    int setDemand(int hour, int to) {
        index(hour >= 0 && hour < 24);
        argument(to >= 0 && to <= 1000);
        save();
        int before = demands[hour];
        demands[hour] = to;
        return before;
    }

    int addPump(int capacity, int oath) {
        argument(capacity >= 1 && capacity <= 500 && oath >= 1 && oath <= 12);
        state(order.size() < 6);
        save();
        Pump p = new Pump();
        p.number = order.size();
        p.capacity = capacity;
        p.oath = oath;
        order.add(p);
        return p.number;
    }

    int swear(int pump, int oath) {
        Pump p = numbered(pump);
        argument(oath >= 1 && oath <= 12);
        save();
        p = numbered(pump);
        int before = p.oath;
        p.oath = oath;
        return before;
    }

    int service(int pump, boolean in) {
        Pump p = numbered(pump);
        state(in == p.out);
        save();
        boolean was = p.on;
        p.out = !in;
        p.on = false;
        return was ? 1 : 0;
    }

    int pass(int minutes) {
        argument(minutes >= 1 && minutes <= 1440);
        state(time + minutes <= 1000000);
        save();
        return minutes(minutes);
    }

    private int minutes(int minutes) {
        int before = value(9);
        for (int i = 0; i < minutes; i++) {
            minute();
        }
        return value(9) - before;
    }

    private int minute() {
        int started = -1;
        int hour = time / 60 % 24;
        if (time % 1440 == 22 * 60) {
            nightBegan = true;
            inNight = 0;
            levelAtDusk = level;
        }
        if (time % 60 == 0) {
            order.forEach(p -> p.hourStarts = 0);
        }
        if (level >= high) {
            boolean any = false;
            for (Pump p : order) {
                any |= p.on;
                p.on = false;
            }
            if (any) {
                order.add(order.remove(0));
            }
        } else {
            int wanted = 0;
            while (wanted < order.size() && level < low - wanted * settings[0]) {
                wanted++;
            }
            if (order.stream().filter(p -> p.on).count() < wanted) {
                started = startOne();
            }
        }
        long pumped = order.stream().filter(p -> p.on).peek(p -> p.minutes++).mapToInt(p -> p.capacity).sum();
        long full = level + pumped;
        long over = full > size ? full - size : 0;
        full -= over;
        long taken = full < demands[hour] ? full : demands[hour];
        full -= taken;
        long leaked = full < settings[1] ? full : settings[1];
        level = (int) (full - leaked);
        long[] sums = {pumped, over, taken, demands[hour] - taken, leaked};
        for (int i = 0; i < 5; i++) {
            water[i] += sums[i];
        }
        inNight += pumped - over - taken;
        if (level < low) {
            below++;
        }
        if (time % 1440 == 359 && nightBegan) {
            nights++;
            nightLeak = inNight - level + levelAtDusk;
        }
        time++;
        return started;
    }

    private int startOne() {
        Pump next = order.stream().filter(p -> !p.on && !p.out && p.hourStarts < p.oath).findFirst().orElse(null);
        if (next == null && settings[2] == 1) {
            next = order.stream().filter(p -> !p.on && !p.out).findFirst().orElse(null);
        }
        if (next == null) {
            return -1;
        }
        next.on = true;
        next.starts++;
        next.hourStarts++;
        if (next.hourStarts > next.oath) {
            next.broken++;
            log.add(new int[] {next.number, time, next.hourStarts});
        }
        return next.number;
    }

    int pump(int pump, int what) {
        Pump p = numbered(pump);
        argument(what >= 0 && what <= 7);
        int mode = p.out ? 2 : p.on ? 1 : 0;
        return new int[] {p.capacity, p.oath, mode, order.indexOf(p), p.hourStarts, p.starts, p.minutes, p.broken}[what];
    }

    int demand(int hour) {
        index(hour >= 0 && hour < 24);
        return demands[hour];
    }

    int value(int what) {
        argument(what >= 0 && what <= 13);
        int on = (int) order.stream().filter(p -> p.on).count();
        int out = (int) order.stream().filter(p -> p.out).count();
        int broken = order.stream().mapToInt(p -> p.broken).sum();
        int lead = order.isEmpty() ? -1 : order.get(0).number;
        return new int[] {size, level, low, high, order.size(), on, out, time, time / 60 % 24, broken, below, lead,
            nights, Math.min(12, log.size())}[what];
    }

    int setting(int what) {
        argument(what >= 0 && what <= 2);
        return settings[what];
    }

    long water(int what) {
        argument(what >= 0 && what <= 4);
        return water[what];
    }

    long nightLeak() {
        state(nights > 0);
        return nightLeak;
    }

    int entry(int index, int what) {
        index(index >= 0 && index < Math.min(12, log.size()));
        argument(what >= 0 && what <= 2);
        return log.get(log.size() - 1 - index)[what];
    }

    int levelIn(int minutes) {
        argument(minutes >= 0 && minutes <= 1440);
        Model trial = copy();
        trial.minutes(minutes);
        return trial.level;
    }

    int startsIn(int pump, int minutes) {
        numbered(pump);
        argument(minutes >= 0 && minutes <= 1440);
        Model trial = copy();
        int starts = 0;
        for (int i = 0; i < minutes; i++) {
            starts += trial.minute() == pump ? 1 : 0;
        }
        return starts;
    }

    int oathFor(int minutes) {
        argument(minutes >= 1 && minutes <= 1440);
        for (int i = 1; i <= 12; i++) {
            int oath = i;
            Model trial = copy();
            trial.order.forEach(p -> p.oath = oath);
            if (trial.minutes(minutes) == 0) {
                return oath;
            }
        }
        return -1;
    }

    int emptyIn() {
        int rest = level;
        for (int i = 0; i <= 1440; i++) {
            if (rest == 0) {
                return i;
            }
            rest = Math.max(0, rest - demands[(time + i) / 60 % 24] - settings[1]);
        }
        return -1;
    }

    int nextStart() {
        Model trial = copy();
        for (int i = 0; i < 1440; i++) {
            int started = trial.minute();
            if (started >= 0) {
                return started;
            }
        }
        return -1;
    }

    double honesty() {
        int starts = order.stream().mapToInt(p -> p.starts).sum();
        return starts == 0 ? 1.0 : (double) (starts - value(9)) / (double) starts;
    }

    int append(int value) {
        argument(value >= 0 && value <= 127);
        state(text.length() < 100);
        text.append((char) value);
        return text.length();
    }

    int clearText() {
        int before = text.length();
        text.setLength(0);
        return before;
    }

    /** The place of the first error, or -1: what the signs allow first, then what the numbers allow. */
    private int syntaxError() {
        String all = text.toString();
        int signs = all.length();
        for (int end = 1; end <= all.length() && signs == all.length(); end++) {
            Matcher m = ORDERS.matcher(all.substring(0, end));
            if (!m.matches() && !m.hitEnd()) {
                signs = end - 1;
            }
        }
        boolean whole = signs == all.length() && ORDERS.matcher(all).matches();
        Matcher m = NUMBERS.matcher(all.substring(0, signs));
        while (m.find()) {
            for (int kind = 1; kind <= 4; kind++) {
                if (m.group(kind) == null) {
                    continue;
                }
                int value = Integer.parseInt(m.group(kind));
                boolean tooLong = kind < 4 && m.end() < all.length() && Character.isDigit(all.charAt(m.end()));
                if ((value < LEAST[kind] || value > GREATEST[kind]) && !tooLong) {
                    return m.start(kind);
                }
            }
        }
        return whole ? -1 : signs;
    }

    int carryOut() {
        int error = syntaxError();
        if (error >= 0) {
            return -10 - error;
        }
        save();
        List<Model> kept = new ArrayList<>(saves);
        int done = 0;
        try {
            for (String order : text.toString().split(";")) {
                if (order.isEmpty()) {
                    break;
                }
                carryOut(order);
                done++;
            }
        } catch (IllegalStateException | IndexOutOfBoundsException e) {
            // The order that throws is not carried out, nor are those behind it.
        }
        saves.clear();
        saves.addAll(kept);
        return done;
    }

    private void carryOut(String order) {
        String[] parts = order.substring(1).split("=");
        int first = Integer.parseInt(parts[0]);
        switch (order.charAt(0)) {
            case 'm' -> pass(first);
            case 'o' -> swear(first, Integer.parseInt(parts[1]));
            case 'x' -> service(first, false);
            case 'y' -> service(first, true);
            default -> setDemand(first, Integer.parseInt(parts[1]));
        }
    }

    int undo() {
        state(!saves.isEmpty());
        take(saves.remove(saves.size() - 1));
        return saves.size();
    }

    long digest() {
        long h = 31L * 3673 + text.length();
        for (int i = 0; i < 14; i++) {
            h = 31 * h + value(i);
        }
        for (int i = 0; i < 3; i++) {
            h = 31 * h + setting(i);
        }
        for (int i = 0; i < 24; i++) {
            h = 31 * h + demand(i);
        }
        for (int i = 0; i < 5; i++) {
            h = 31 * h + water(i);
        }
        h = 31 * h + (nights > 0 ? nightLeak : 0);
        for (int i = 0; i < 8 * order.size(); i++) {
            h = 31 * h + pump(i / 8, i % 8);
        }
        for (int i = 0; i < 3 * value(13); i++) {
            h = 31 * h + entry(i / 3, i % 3);
        }
        return 31 * h + saves.size();
    }
}
