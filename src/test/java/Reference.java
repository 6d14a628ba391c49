import java.util.ArrayList;
import java.util.List;
import java.util.Random;

/**
 * Long runs of calls, right and wrong ones, on PvArray and on a model that follows the document
 * word for word by full scans. The seeds are fixed, so every run is the same each time.
 */
public final class Reference {
    private static final int RUNS = 400;
    private static final int CALLS = 512;

    private static final class Module {
        int index, rated, open, irradiance = 1000, resistance = 0;
        boolean diode = true;

        int photocurrent() {
            return irradiance * rated / 1000;
        }

        int voltage(int i, int drop) {
            return i > photocurrent() ? -drop : Math.max(0, open - resistance * i / 10000);
        }
    }

    private static final class Model {
        final List<Module> modules = new ArrayList<>();
        final List<List<Module>> strings = new ArrayList<>();
        int drop = 7;

        boolean noString(int s) {
            return s < 0 || s >= strings.size();
        }

        boolean noModule(int m) {
            return m < 0 || m >= modules.size();
        }

        int addString() {
            if (strings.size() == 6) {
                return -1004;
            }
            strings.add(new ArrayList<>());
            return strings.size() - 1;
        }

        int addModule(int s, int rated, int open) {
            if (noString(s)) {
                return -1001;
            }
            if (rated < 1 || rated > 1000 || open < 1 || open > 600) {
                return -1003;
            }
            if (modules.size() == 24 || strings.get(s).size() == 12) {
                return -1004;
            }
            Module m = new Module();
            m.index = modules.size();
            m.rated = rated;
            m.open = open;
            modules.add(m);
            strings.get(s).add(m);
            return m.index;
        }

        int setIrradiance(int m, int irradiance) {
            if (noModule(m)) {
                return -1002;
            }
            if (irradiance < 0 || irradiance > 1200) {
                return -1003;
            }
            int old = modules.get(m).irradiance;
            modules.get(m).irradiance = irradiance;
            return old;
        }

        int shade(int first, int last, int percent) {
            if (noModule(first) || noModule(last)) {
                return -1002;
            }
            if (first > last || percent < 0 || percent > 100) {
                return -1003;
            }
            int changed = 0;
            for (Module m : modules.subList(first, last + 1)) {
                int now = m.irradiance * (100 - percent) / 100;
                changed += now != m.irradiance ? 1 : 0;
                m.irradiance = now;
            }
            return changed;
        }

        int setResistance(int m, int milliohms) {
            if (noModule(m)) {
                return -1002;
            }
            if (milliohms < 0 || milliohms > 5000) {
                return -1003;
            }
            int old = modules.get(m).resistance;
            modules.get(m).resistance = milliohms;
            return old;
        }

        int setBypassDiode(int m, boolean fitted) {
            if (noModule(m)) {
                return -1002;
            }
            boolean old = modules.get(m).diode;
            modules.get(m).diode = fitted;
            return old == fitted ? 0 : 1;
        }

        int setDiodeDrop(int d) {
            if (d < 0 || d > 20) {
                return -1003;
            }
            int old = drop;
            drop = d;
            return old;
        }

        int stringIndexOf(Module m) {
            for (int s = 0; s < strings.size(); s++) {
                if (strings.get(s).contains(m)) {
                    return s;
                }
            }
            throw new IllegalStateException("a module without a string");
        }

        int moveModule(int m, int s) {
            if (noModule(m)) {
                return -1002;
            }
            if (noString(s)) {
                return -1001;
            }
            Module module = modules.get(m);
            int old = stringIndexOf(module);
            if (old != s && strings.get(s).size() == 12) {
                return -1004;
            }
            strings.get(old).remove(module);
            strings.get(s).add(module);
            return strings.get(s).size() - 1;
        }

        int swapModules(int a, int b) {
            if (noModule(a) || noModule(b)) {
                return -1002;
            }
            Module first = modules.get(a);
            Module second = modules.get(b);
            List<Module> one = strings.get(stringIndexOf(first));
            List<Module> other = strings.get(stringIndexOf(second));
            int p = one.indexOf(first);
            int q = other.indexOf(second);
            one.set(p, second);
            other.set(q, first);
            return one != other ? 1 : 0;
        }

        int stringOf(int m) {
            return noModule(m) ? -1002 : stringIndexOf(modules.get(m));
        }

        int moduleAt(int s, int p) {
            if (noString(s)) {
                return -1001;
            }
            if (p < 0) {
                return -1003;
            }
            return p < strings.get(s).size() ? strings.get(s).get(p).index : -1005;
        }

        int photocurrent(int m) {
            return noModule(m) ? -1002 : modules.get(m).photocurrent();
        }

        int moduleVoltage(int m, int i) {
            if (noModule(m)) {
                return -1002;
            }
            if (i < 0 || i > 1200) {
                return -1003;
            }
            Module module = modules.get(m);
            return i > module.photocurrent() && !module.diode ? -1005 : module.voltage(i, drop);
        }

        long modulePeakPower(int m) {
            if (noModule(m)) {
                return Long.MIN_VALUE;
            }
            long best = 0;
            for (int i = 0; i <= modules.get(m).photocurrent(); i++) {
                best = Math.max(best, (long) i * modules.get(m).voltage(i, drop));
            }
            return best;
        }

        int limit(int s) {
            int limit = 0;
            for (Module m : strings.get(s)) {
                limit = Math.max(limit, m.photocurrent());
            }
            for (Module m : strings.get(s)) {
                if (!m.diode) {
                    limit = Math.min(limit, m.photocurrent());
                }
            }
            return limit;
        }

        boolean offCurve(int s, int i) {
            return i < 0 || i > limit(s);
        }

        int voltage(int s, int i) {
            int sum = 0;
            for (Module m : strings.get(s)) {
                sum += m.voltage(i, drop);
            }
            return sum;
        }

        long power(int s, int i) {
            return (long) i * voltage(s, i);
        }

        int currentLimit(int s) {
            return noString(s) ? -1001 : limit(s);
        }

        int stringVoltage(int s, int i) {
            return noString(s) ? -1001 : offCurve(s, i) ? -1003 : voltage(s, i);
        }

        long stringPower(int s, int i) {
            return noString(s) || offCurve(s, i) ? Long.MIN_VALUE : power(s, i);
        }

        int bypassedModules(int s, int i) {
            if (noString(s)) {
                return -1001;
            }
            if (offCurve(s, i)) {
                return -1003;
            }
            int bits = 0;
            for (int p = 0; p < strings.get(s).size(); p++) {
                bits |= i > strings.get(s).get(p).photocurrent() ? 1 << p : 0;
            }
            return bits;
        }

        List<Integer> peaks(int s) {
            List<Integer> peaks = new ArrayList<>();
            int limit = limit(s);
            for (int i = 1; i <= limit; i++) {
                if (power(s, i) > power(s, i - 1) && (i == limit || power(s, i) > power(s, i + 1))) {
                    peaks.add(i);
                }
            }
            return peaks;
        }

        int peakCount(int s) {
            return noString(s) ? -1001 : peaks(s).size();
        }

        int peakCurrent(int s, int k) {
            if (noString(s)) {
                return -1001;
            }
            if (k < 0) {
                return -1003;
            }
            List<Integer> peaks = peaks(s);
            return k < peaks.size() ? peaks.get(k) : -1005;
        }

        int best(int s) {
            int best = 0;
            for (int i = 1; i <= limit(s); i++) {
                if (power(s, i) > power(s, best)) {
                    best = i;
                }
            }
            return best;
        }

        int bestCurrent(int s) {
            return noString(s) ? -1001 : best(s);
        }

        long bestPower(int s) {
            return noString(s) ? Long.MIN_VALUE : power(s, best(s));
        }

        int perturbAndObserve(int s, int start, int step, int iterations) {
            if (noString(s)) {
                return -1001;
            }
            if (offCurve(s, start) || step < 1 || step > 100 || iterations < 0 || iterations > 200) {
                return -1003;
            }
            int current = start;
            int direction = 1;
            for (int n = 0; n < iterations; n++) {
                int candidate = current + direction * step;
                candidate = candidate < 0 ? 0 : candidate > limit(s) ? limit(s) : candidate;
                if (power(s, candidate) > power(s, current)) {
                    current = candidate;
                } else {
                    direction = -direction;
                }
            }
            return current;
        }

        int scanAndClimb(int s, int interval) {
            if (noString(s)) {
                return -1001;
            }
            if (interval < 1 || interval > 500) {
                return -1003;
            }
            int limit = limit(s);
            int current = 0;
            for (int n = 0; n * interval <= limit; n++) {
                if (power(s, n * interval) > power(s, current)) {
                    current = n * interval;
                }
            }
            while (true) {
                if (current < limit && power(s, current + 1) > power(s, current)) {
                    current++;
                } else if (current > 0 && power(s, current - 1) > power(s, current)) {
                    current--;
                } else {
                    return current;
                }
            }
        }

        /** For every string its voltages from current 0 to the limit. */
        int[][] curves() {
            int[][] curves = new int[strings.size()][];
            for (int s = 0; s < curves.length; s++) {
                curves[s] = new int[limit(s) + 1];
                for (int i = 0; i < curves[s].length; i++) {
                    curves[s][i] = voltage(s, i);
                }
            }
            return curves;
        }

        int currentAt(int[][] curves, int v) {
            int sum = 0;
            for (int[] curve : curves) {
                for (int i = curve.length - 1; i >= 0; i--) {
                    if (curve[i] >= v) {
                        sum += i;
                        break;
                    }
                }
            }
            return sum;
        }

        int arrayCurrent(int v) {
            return v < 0 || v > 7200 ? -1003 : currentAt(curves(), v);
        }

        int bestArrayVoltage() {
            int[][] curves = curves();
            int best = 0;
            long greatest = 0;
            for (int v = 0; v <= 7200; v++) {
                long power = (long) v * currentAt(curves, v);
                if (power > greatest) {
                    greatest = power;
                    best = v;
                }
            }
            return best;
        }

        long totalBestPower() {
            long sum = 0;
            for (int s = 0; s < strings.size(); s++) {
                sum += bestPower(s);
            }
            return sum;
        }

        long mismatchLoss() {
            long sum = 0;
            for (int m = 0; m < modules.size(); m++) {
                sum += modulePeakPower(m);
            }
            return sum - totalBestPower();
        }

        /** Gain, lower and higher module of the best exchange. */
        long[] bestSwap() {
            long[] best = {0, -1005, -1005};
            long before = totalBestPower();
            for (int a = 0; a < modules.size(); a++) {
                for (int b = a + 1; b < modules.size(); b++) {
                    if (stringOf(a) != stringOf(b)) {
                        swapModules(a, b);
                        long gain = totalBestPower() - before;
                        swapModules(a, b);
                        if (gain > best[0]) {
                            best = new long[] {gain, a, b};
                        }
                    }
                }
            }
            return best;
        }

        int regroup() {
            List<Module> sorted = new ArrayList<>(modules);
            sorted.sort((a, b) -> a.photocurrent() != b.photocurrent()
                    ? b.photocurrent() - a.photocurrent() : a.index - b.index);
            int moved = 0;
            List<List<Module>> filled = new ArrayList<>();
            for (List<Module> old : strings) {
                List<Module> now = new ArrayList<>(sorted.subList(0, old.size()));
                sorted = sorted.subList(old.size(), sorted.size());
                for (Module m : now) {
                    moved += old.contains(m) ? 0 : 1;
                }
                filled.add(now);
            }
            strings.clear();
            strings.addAll(filled);
            return moved;
        }
    }

    private static final int[] WILD = {
        -1, Integer.MIN_VALUE, Integer.MAX_VALUE, Integer.MIN_VALUE + 1, Integer.MAX_VALUE - 1,
        6, 7, 12, 24, 25, 31, 32, 64, 100, 101, 501, 601, 1001, 1201, 5001, 7201, 1 << 16, 1 << 30
    };

    private static int wrong = 0;

    private final Random random;
    private final int flavour;
    private final PvArray x = new PvArray();
    private final Model y = new Model();
    private final List<String> log = new ArrayList<>();
    private int dearCalls = 0;

    private Reference(int run) {
        random = new Random(run);
        flavour = run % 5;
    }

    private int pick(int low, int high) {
        int roll = random.nextInt(40);
        if (roll == 0) {
            return WILD[random.nextInt(WILD.length)];
        }
        if (roll == 1) {
            return low - 1;
        }
        if (roll == 2) {
            return high + 1;
        }
        if (roll == 3) {
            return low;
        }
        if (roll == 4) {
            return high;
        }
        return low + random.nextInt(Math.max(1, high - low + 1));
    }

    private int string() {
        return pick(0, y.strings.size() - 1);
    }

    private int module() {
        return pick(0, y.modules.size() - 1);
    }

    private int current(int s) {
        return pick(0, y.noString(s) ? 1200 : y.limit(s));
    }

    /** Few different values make ties, which the document's order of exchanges and peaks is about. */
    private int fewValues(int low, int high) {
        return flavour < 2 ? pick(low, high) : low + (1 + random.nextInt(3)) * ((high - low) / 3);
    }

    private void due(String call, long got, long want) {
        log.add(call + " = " + got);
        if (got != want) {
            wrong++;
            System.out.println("seed run, flavour " + flavour + ": " + call + " answered " + got + ", due is "
                    + want + " after " + log);
        }
    }

    private void change() {
        switch (random.nextInt(12)) {
            case 0 -> due("addString()", x.addString(), y.addString());
            case 1, 2, 3 -> {
                int s = string();
                int rated = fewValues(1, 1000);
                int open = fewValues(1, 600);
                due("addModule(" + s + ", " + rated + ", " + open + ")", x.addModule(s, rated, open), y.addModule(s, rated, open));
            }
            case 4, 5 -> {
                int m = module();
                int w = fewValues(0, 1200);
                due("setIrradiance(" + m + ", " + w + ")", x.setIrradiance(m, w), y.setIrradiance(m, w));
            }
            case 6 -> {
                int a = module();
                int b = random.nextBoolean() ? module() : a + random.nextInt(3);
                int percent = random.nextInt(3) == 0 ? pick(0, 100) : random.nextInt(30);
                due("shade(" + a + ", " + b + ", " + percent + ")", x.shade(a, b, percent), y.shade(a, b, percent));
            }
            case 7 -> {
                int m = module();
                int r = flavour == 2 ? 0 : flavour == 3 ? pick(0, 300) : pick(0, 5000);
                due("setResistance(" + m + ", " + r + ")", x.setResistance(m, r), y.setResistance(m, r));
            }
            case 8 -> {
                int m = module();
                boolean fitted = random.nextInt(4) != 0;
                due("setBypassDiode(" + m + ", " + fitted + ")", x.setBypassDiode(m, fitted), y.setBypassDiode(m, fitted));
            }
            case 9 -> {
                int d = pick(0, 20);
                due("setDiodeDrop(" + d + ")", x.setDiodeDrop(d), y.setDiodeDrop(d));
            }
            case 10 -> {
                int m = module();
                int s = string();
                due("moveModule(" + m + ", " + s + ")", x.moveModule(m, s), y.moveModule(m, s));
            }
            default -> {
                int a = module();
                int b = random.nextInt(8) == 0 ? a : module();
                due("swapModules(" + a + ", " + b + ")", x.swapModules(a, b), y.swapModules(a, b));
            }
        }
    }

    private void ask() {
        int s = string();
        int m = module();
        int i = current(s);
        switch (random.nextInt(18)) {
            case 0 -> due("stringOf(" + m + ")", x.stringOf(m), y.stringOf(m));
            case 1 -> {
                int p = pick(0, y.noString(s) ? 12 : y.strings.get(s).size());
                due("moduleAt(" + s + ", " + p + ")", x.moduleAt(s, p), y.moduleAt(s, p));
            }
            case 2 -> due("photocurrent(" + m + ")", x.photocurrent(m), y.photocurrent(m));
            case 3 -> {
                int c = pick(0, random.nextBoolean() && !y.noModule(m) ? y.photocurrent(m) : 1200);
                due("moduleVoltage(" + m + ", " + c + ")", x.moduleVoltage(m, c), y.moduleVoltage(m, c));
            }
            case 4 -> due("modulePeakPower(" + m + ")", x.modulePeakPower(m), y.modulePeakPower(m));
            case 5 -> due("currentLimit(" + s + ")", x.currentLimit(s), y.currentLimit(s));
            case 6 -> due("stringVoltage(" + s + ", " + i + ")", x.stringVoltage(s, i), y.stringVoltage(s, i));
            case 7 -> due("stringPower(" + s + ", " + i + ")", x.stringPower(s, i), y.stringPower(s, i));
            case 8 -> due("bypassedModules(" + s + ", " + i + ")", x.bypassedModules(s, i), y.bypassedModules(s, i));
            case 9 -> due("peakCount(" + s + ")", x.peakCount(s), y.peakCount(s));
            case 10 -> {
                int k = pick(0, y.noString(s) ? 3 : Math.max(0, y.peakCount(s) - 1));
                due("peakCurrent(" + s + ", " + k + ")", x.peakCurrent(s, k), y.peakCurrent(s, k));
            }
            case 11 -> due("bestCurrent(" + s + ")", x.bestCurrent(s), y.bestCurrent(s));
            case 12 -> due("bestPower(" + s + ")", x.bestPower(s), y.bestPower(s));
            case 13 -> {
                int step = pick(1, 100);
                int n = pick(0, 200);
                due("perturbAndObserve(" + s + ", " + i + ", " + step + ", " + n + ")",
                        x.perturbAndObserve(s, i, step, n), y.perturbAndObserve(s, i, step, n));
            }
            case 14 -> {
                int interval = pick(1, 500);
                due("scanAndClimb(" + s + ", " + interval + ")", x.scanAndClimb(s, interval), y.scanAndClimb(s, interval));
            }
            case 15 -> {
                int v = random.nextInt(4) == 0 || y.noString(s) ? pick(0, 7200) : pick(0, y.voltage(s, 0));
                due("arrayCurrent(" + v + ")", x.arrayCurrent(v), y.arrayCurrent(v));
            }
            case 16 -> due("totalBestPower()", x.totalBestPower(), y.totalBestPower());
            default -> due("mismatchLoss()", x.mismatchLoss(), y.mismatchLoss());
        }
    }

    private void askDear() {
        dearCalls++;
        due("bestArrayVoltage()", x.bestArrayVoltage(), y.bestArrayVoltage());
        long[] best = y.bestSwap();
        due("bestSwapGain()", x.bestSwapGain(), best[0]);
        due("bestSwapLower()", x.bestSwapLower(), best[1]);
        due("bestSwapHigher()", x.bestSwapHigher(), best[2]);
    }

    private void layout() {
        for (int s = 0; s < y.strings.size(); s++) {
            for (int p = 0; p <= 12; p++) {
                due("moduleAt(" + s + ", " + p + ")", x.moduleAt(s, p), y.moduleAt(s, p));
            }
        }
    }

    private void run() {
        int strings = random.nextInt(6);
        for (int s = 0; s < strings; s++) {
            due("addString()", x.addString(), y.addString());
        }
        while (log.size() < CALLS - 80) {
            if (dearCalls < 2 && random.nextInt(100) == 0) {
                askDear();
            } else if (random.nextInt(40) == 0) {
                due("regroup()", x.regroup(), y.regroup());
            } else if (random.nextBoolean()) {
                change();
            } else {
                ask();
            }
        }
        layout();
    }

    public static void main(String[] args) {
        for (int run = 0; run < RUNS && wrong == 0; run++) {
            new Reference(run).run();
        }
        System.out.println(wrong == 0 ? "all answers are as due" : wrong + " answers are not as due");
        if (wrong != 0) {
            System.exit(1);
        }
    }
}
