/**
 * A photovoltaic array under partial shading: modules in series form strings, strings in parallel
 * form the array. Currents are in hundredths of an ampere, voltages in tenths of a volt, powers in
 * milliwatts.
 */
public final class PvArray {
    public static final int NO_SUCH_STRING = -1001;
    public static final int NO_SUCH_MODULE = -1002;
    public static final int BAD_VALUE = -1003;
    public static final int FULL = -1004;
    public static final int NONE = -1005;
    public static final long NO_POWER = Long.MIN_VALUE;

    private static final int MAX_STRINGS = 6;
    private static final int MAX_MODULES = 24;
    private static final int MAX_MODULES_OF_STRING = 12;
    private static final int MAX_RATED_CURRENT = 1000;
    private static final int MAX_OPEN_VOLTAGE = 600;
    private static final int MAX_IRRADIANCE = 1200;
    private static final int MAX_CURRENT = 1200;
    private static final int MAX_RESISTANCE = 5000;
    private static final int MAX_DIODE_DROP = 20;
    private static final int MAX_STEP = 100;
    private static final int MAX_ITERATIONS = 200;
    private static final int MAX_INTERVAL = 500;
    private static final int MAX_ARRAY_VOLTAGE = 7200;
    private static final int FIRST_IRRADIANCE = 1000;
    private static final int FIRST_DIODE_DROP = 7;
    private static final int COARSE_POINTS = 32;

    // All modules and strings are made at once, so that no call meets null and none makes objects.
    private final Diodes diodes;
    private final PvModule[] modules;
    private int moduleCount = 0;
    private final PvString[] strings;
    private final Parallel parallel;

    private final long[] powerBefore = new long[MAX_STRINGS];
    private long swapGain = 0;
    private int swapLower = NONE;
    private int swapHigher = NONE;

    private final int[] sorted = new int[MAX_MODULES];

    public PvArray() {
        // The parts know each other before the array takes them, so that it hands out none of its own.
        Diodes allDiodes = new Diodes();
        PvModule[] allModules = new PvModule[MAX_MODULES];
        for (int m = 0; m < MAX_MODULES; m++) {
            allModules[m] = new PvModule(allDiodes);
        }
        PvString[] allStrings = new PvString[MAX_STRINGS];
        for (int s = 0; s < MAX_STRINGS; s++) {
            allStrings[s] = new PvString(allModules);
        }
        parallel = new Parallel(allStrings);
        diodes = allDiodes;
        modules = allModules;
        strings = allStrings;
    }

    // ---- construction

    public int addString() {
        if (parallel.count >= MAX_STRINGS) {
            return FULL;
        }
        parallel.count++;
        return parallel.count - 1;
    }

    public int addModule(int string, int ratedCurrent, int openVoltage) {
        if (!isString(string)) {
            return NO_SUCH_STRING;
        }
        if (!isWithin(ratedCurrent, 1, MAX_RATED_CURRENT) || !isWithin(openVoltage, 1, MAX_OPEN_VOLTAGE)) {
            return BAD_VALUE;
        }
        if (moduleCount >= MAX_MODULES || strings[string].isFull()) {
            return FULL;
        }
        int module = moduleCount;
        moduleCount++;
        modules[module].ratedCurrent = ratedCurrent;
        modules[module].openVoltage = openVoltage;
        modules[module].illuminate(FIRST_IRRADIANCE);
        putLast(module, string);
        return module;
    }

    public int setIrradiance(int module, int irradiance) {
        if (!isModule(module)) {
            return NO_SUCH_MODULE;
        }
        if (!isWithin(irradiance, 0, MAX_IRRADIANCE)) {
            return BAD_VALUE;
        }
        int previous = modules[module].irradiance;
        modules[module].illuminate(irradiance);
        return previous;
    }

    public int shade(int first, int last, int percent) {
        if (!isModule(first) || !isModule(last)) {
            return NO_SUCH_MODULE;
        }
        if (first > last || !isWithin(percent, 0, 100)) {
            return BAD_VALUE;
        }
        int changed = 0;
        for (int m = first; m <= last; m++) {
            int previous = modules[m].irradiance;
            modules[m].illuminate(previous * (100 - percent) / 100);
            if (modules[m].irradiance != previous) {
                changed++;
            }
        }
        return changed;
    }

    public int setResistance(int module, int milliohms) {
        if (!isModule(module)) {
            return NO_SUCH_MODULE;
        }
        if (!isWithin(milliohms, 0, MAX_RESISTANCE)) {
            return BAD_VALUE;
        }
        int previous = modules[module].resistance;
        modules[module].resistance = milliohms;
        return previous;
    }

    public int setBypassDiode(int module, boolean fitted) {
        if (!isModule(module)) {
            return NO_SUCH_MODULE;
        }
        if (modules[module].hasDiode == fitted) {
            return 0;
        }
        modules[module].hasDiode = fitted;
        return 1;
    }

    public int setDiodeDrop(int drop) {
        if (!isWithin(drop, 0, MAX_DIODE_DROP)) {
            return BAD_VALUE;
        }
        int previous = diodes.drop;
        diodes.drop = drop;
        return previous;
    }

    // ---- layout

    public int moveModule(int module, int string) {
        if (!isModule(module)) {
            return NO_SUCH_MODULE;
        }
        if (!isString(string)) {
            return NO_SUCH_STRING;
        }
        if (modules[module].string != string && strings[string].isFull()) {
            return FULL;
        }
        takeOut(module);
        return putLast(module, string);
    }

    public int swapModules(int first, int second) {
        if (!isModule(first) || !isModule(second)) {
            return NO_SUCH_MODULE;
        }
        exchange(first, second);
        return modules[first].string != modules[second].string ? 1 : 0;
    }

    public int stringOf(int module) {
        return isModule(module) ? modules[module].string : NO_SUCH_MODULE;
    }

    public int moduleAt(int string, int position) {
        if (!isString(string)) {
            return NO_SUCH_STRING;
        }
        if (position < 0) {
            return BAD_VALUE;
        }
        return position < strings[string].count ? strings[string].members[position] : NONE;
    }

    // ---- modules

    public int photocurrent(int module) {
        return isModule(module) ? modules[module].lightCurrent : NO_SUCH_MODULE;
    }

    public int moduleVoltage(int module, int current) {
        if (!isModule(module)) {
            return NO_SUCH_MODULE;
        }
        if (!isWithin(current, 0, MAX_CURRENT)) {
            return BAD_VALUE;
        }
        if (current > modules[module].lightCurrent && !modules[module].hasDiode) {
            return NONE;
        }
        return modules[module].valueAt(current);
    }

    public long modulePeakPower(int module) {
        return isModule(module) ? modules[module].greatestProduct() : NO_POWER;
    }

    // ---- curves of a string

    public int currentLimit(int string) {
        return isString(string) ? strings[string].end() : NO_SUCH_STRING;
    }

    public int stringVoltage(int string, int current) {
        if (!isString(string)) {
            return NO_SUCH_STRING;
        }
        if (!isWithin(current, 0, strings[string].end())) {
            return BAD_VALUE;
        }
        return strings[string].valueAt(current);
    }

    public long stringPower(int string, int current) {
        if (!isString(string) || !isWithin(current, 0, strings[string].end())) {
            return NO_POWER;
        }
        return strings[string].productAt(current);
    }

    public int bypassedModules(int string, int current) {
        if (!isString(string)) {
            return NO_SUCH_STRING;
        }
        if (!isWithin(current, 0, strings[string].end())) {
            return BAD_VALUE;
        }
        return strings[string].bypassedAt(current);
    }

    public int peakCount(int string) {
        if (!isString(string)) {
            return NO_SUCH_STRING;
        }
        int limit = strings[string].end();
        int peaks = 0;
        for (int i = 1; i <= limit; i++) {
            if (strings[string].isPeak(i, limit)) {
                peaks++;
            }
        }
        return peaks;
    }

    public int peakCurrent(int string, int k) {
        if (!isString(string)) {
            return NO_SUCH_STRING;
        }
        if (k < 0) {
            return BAD_VALUE;
        }
        int limit = strings[string].end();
        int before = 0;
        for (int i = 1; i <= limit; i++) {
            if (strings[string].isPeak(i, limit)) {
                if (before == k) {
                    return i;
                }
                before++;
            }
        }
        return NONE;
    }

    public int bestCurrent(int string) {
        return isString(string) ? strings[string].bestPoint() : NO_SUCH_STRING;
    }

    public long bestPower(int string) {
        return isString(string) ? strings[string].greatestProduct() : NO_POWER;
    }

    // ---- trackers

    public int perturbAndObserve(int string, int start, int step, int iterations) {
        if (!isString(string)) {
            return NO_SUCH_STRING;
        }
        PvString tracked = strings[string];
        int limit = tracked.end();
        if (!isWithin(start, 0, limit) || !isWithin(step, 1, MAX_STEP)
                || !isWithin(iterations, 0, MAX_ITERATIONS)) {
            return BAD_VALUE;
        }
        int current = start;
        boolean up = true;
        for (int n = 0; n < iterations; n++) {
            int candidate = up ? Math.min(current + step, limit) : Math.max(current - step, 0);
            if (tracked.productAt(candidate) > tracked.productAt(current)) {
                current = candidate;
            } else {
                up = !up;
            }
        }
        return current;
    }

    public int scanAndClimb(int string, int interval) {
        if (!isString(string)) {
            return NO_SUCH_STRING;
        }
        if (!isWithin(interval, 1, MAX_INTERVAL)) {
            return BAD_VALUE;
        }
        return strings[string].climbFrom(strings[string].bestOfScan(interval));
    }

    // ---- the array

    public int arrayCurrent(int voltage) {
        return isWithin(voltage, 0, MAX_ARRAY_VOLTAGE) ? parallel.valueAt(voltage) : BAD_VALUE;
    }

    public int bestArrayVoltage() {
        return parallel.bestPoint();
    }

    public long totalBestPower() {
        long sum = 0;
        for (int s = 0; s < parallel.count; s++) {
            sum += strings[s].greatestProduct();
        }
        return sum;
    }

    public long mismatchLoss() {
        long loss = 0;
        for (int m = 0; m < moduleCount; m++) {
            loss += modules[m].greatestProduct();
        }
        for (int s = 0; s < parallel.count; s++) {
            loss -= strings[s].greatestProduct();
        }
        return loss;
    }

    // ---- regrouping

    public long bestSwapGain() {
        findBestSwap();
        return swapGain;
    }

    public int bestSwapLower() {
        findBestSwap();
        return swapLower;
    }

    public int bestSwapHigher() {
        findBestSwap();
        return swapHigher;
    }

    public int regroup() {
        sortByLightCurrent();
        int moved = 0;
        int next = 0;
        for (int s = 0; s < parallel.count; s++) {
            for (int p = 0; p < strings[s].count && next < moduleCount; p++) {
                int module = sorted[next];
                next++;
                if (modules[module].string != s) {
                    moved++;
                }
                place(module, s, p);
            }
        }
        return moved;
    }

    // ---- helpers

    private boolean isString(int string) {
        return string >= 0 && string < parallel.count;
    }

    private boolean isModule(int module) {
        return module >= 0 && module < moduleCount;
    }

    private static boolean isWithin(int value, int least, int greatest) {
        return value >= least && value <= greatest;
    }

    private void place(int module, int string, int position) {
        strings[string].members[position] = module;
        modules[module].string = string;
        modules[module].position = position;
    }

    private int putLast(int module, int string) {
        int position = strings[string].count;
        place(module, string, position);
        strings[string].count++;
        return position;
    }

    private void takeOut(int module) {
        int string = modules[module].string;
        PvString left = strings[string];
        left.count--;
        for (int p = modules[module].position; p < left.count; p++) {
            place(left.members[p + 1], string, p);
        }
    }

    private void exchange(int first, int second) {
        int string = modules[first].string;
        int position = modules[first].position;
        place(first, modules[second].string, modules[second].position);
        place(second, string, position);
    }

    private void findBestSwap() {
        swapGain = 0;
        swapLower = NONE;
        swapHigher = NONE;
        for (int s = 0; s < parallel.count; s++) {
            powerBefore[s] = strings[s].greatestProduct();
        }
        for (int lower = 0; lower < moduleCount; lower++) {
            for (int higher = lower + 1; higher < moduleCount; higher++) {
                int one = modules[lower].string;
                int other = modules[higher].string;
                if (one == other) {
                    continue;
                }
                exchange(lower, higher);
                long after = strings[one].greatestProduct() + strings[other].greatestProduct();
                exchange(lower, higher);
                long gain = after - powerBefore[one] - powerBefore[other];
                // Only a greater gain counts, so that of equal ones the first, the lowest pair, stays.
                if (gain > swapGain) {
                    swapGain = gain;
                    swapLower = lower;
                    swapHigher = higher;
                }
            }
        }
    }

    private void sortByLightCurrent() {
        for (int m = 0; m < moduleCount; m++) {
            int slot = m;
            // Strictly less, so that equal modules stay in the order of their indices.
            while (slot > 0 && modules[sorted[slot - 1]].lightCurrent < modules[m].lightCurrent) {
                sorted[slot] = sorted[slot - 1];
                slot--;
            }
            sorted[slot] = m;
        }
    }

    /** The setting that all bypass diodes share. */
    private static final class Diodes {
        private int drop = FIRST_DIODE_DROP;
    }

    /**
     * A whole number for every point from 0 to the end, which never increases from point to point.
     * A point times its value is a power.
     */
    private abstract static class Curve {
        abstract int valueAt(int point);

        abstract int end();

        final long productAt(int point) {
            return (long) point * valueAt(point);
        }

        final long greatestProduct() {
            return productAt(bestPoint());
        }

        /** The lowest of the points with the greatest product. */
        final int bestPoint() {
            int end = end();
            int stride = end / COARSE_POINTS + 1;
            // A coarse pass first: the better the product to beat, the longer the leaps below. One
            // less is to be beaten, so that the lowest point with that product is found too.
            long toBeat = -1;
            for (int coarse = 0; coarse <= end; coarse += stride) {
                toBeat = Math.max(toBeat, (long) coarse * valueAt(coarse) - 1);
            }
            int best = 0;
            int point = 0;
            while (point <= end) {
                int value = valueAt(point);
                if (value <= 0) {
                    // From here on no product is above 0, and point 0 has that already.
                    break;
                }
                if ((long) point * value > toBeat) {
                    toBeat = (long) point * value;
                    best = point;
                }
                // Later values are no greater, so a point up to toBeat / value can't win.
                point = (int) Math.max(point + 1L, toBeat / value + 1L);
            }
            return best;
        }
    }

    /** A module: its voltage over the current. */
    private static final class PvModule extends Curve {
        private final Diodes diodes;
        private int ratedCurrent = 0;
        private int openVoltage = 0;
        private int irradiance = 0;
        private int lightCurrent = 0;
        private int resistance = 0;
        private boolean hasDiode = true;
        private int string = 0;
        private int position = 0;

        private PvModule(Diodes diodes) {
            this.diodes = diodes;
        }

        private void illuminate(int newIrradiance) {
            irradiance = newIrradiance;
            lightCurrent = newIrradiance * ratedCurrent / 1000;
        }

        int valueAt(int current) {
            if (current > lightCurrent) {
                return -diodes.drop;
            }
            int voltage = openVoltage - resistance * current / 10000;
            return voltage > 0 ? voltage : 0;
        }

        int end() {
            return lightCurrent;
        }
    }

    /** Modules in series: their common voltage over the current. */
    private static final class PvString extends Curve {
        private final PvModule[] modules;
        private final int[] members = new int[MAX_MODULES_OF_STRING];
        private int count = 0;

        private PvString(PvModule[] modules) {
            this.modules = modules;
        }

        private boolean isFull() {
            return count >= MAX_MODULES_OF_STRING;
        }

        int valueAt(int current) {
            int sum = 0;
            for (int p = 0; p < count; p++) {
                sum += modules[members[p]].valueAt(current);
            }
            return sum;
        }

        int end() {
            int greatest = 0;
            int cap = MAX_CURRENT;
            for (int p = 0; p < count; p++) {
                PvModule module = modules[members[p]];
                greatest = Math.max(greatest, module.lightCurrent);
                if (!module.hasDiode) {
                    cap = Math.min(cap, module.lightCurrent);
                }
            }
            return Math.min(greatest, cap);
        }

        private int bypassedAt(int current) {
            int bits = 0;
            for (int p = 0; p < count; p++) {
                if (current > modules[members[p]].lightCurrent) {
                    bits |= 1 << p;
                }
            }
            return bits;
        }

        private boolean isPeak(int current, int limit) {
            long power = productAt(current);
            return power > productAt(current - 1)
                    && (current == limit || power > productAt(current + 1));
        }

        /** The lowest of the best among 0, interval, 2 times interval and so on. */
        private int bestOfScan(int interval) {
            int limit = end();
            int best = 0;
            long greatest = 0;
            for (int current = 0; current <= limit; current += Math.max(interval, 1)) {
                long power = productAt(current);
                if (power > greatest) {
                    greatest = power;
                    best = current;
                }
            }
            return best;
        }

        private int climbFrom(int start) {
            int limit = end();
            int current = start;
            // The power grows with every step, so the climb never turns: limit steps are enough.
            for (int steps = 0; steps < limit; steps++) {
                long power = productAt(current);
                if (current < limit && productAt(current + 1) > power) {
                    current++;
                } else if (current > 0 && productAt(current - 1) > power) {
                    current--;
                } else {
                    break;
                }
            }
            return current;
        }

        /** The greatest current with at least this voltage, by halving, as the voltage only falls. */
        private int deliveredAt(int voltage) {
            int low = 0;
            int high = end();
            while (low < high) {
                int middle = (low + high + 1) / 2;
                if (valueAt(middle) >= voltage) {
                    low = middle;
                } else {
                    high = middle - 1;
                }
            }
            return low;
        }
    }

    /** Strings in parallel: the sum of their currents over the voltage. */
    private static final class Parallel extends Curve {
        private final PvString[] strings;
        private int count = 0;

        private Parallel(PvString[] strings) {
            this.strings = strings;
        }

        int valueAt(int voltage) {
            int sum = 0;
            for (int s = 0; s < count; s++) {
                sum += strings[s].deliveredAt(voltage);
            }
            return sum;
        }

        int end() {
            return MAX_ARRAY_VOLTAGE;
        }
    }
}
