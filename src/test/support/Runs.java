import java.lang.reflect.InvocationTargetException;
import java.lang.reflect.Method;
import java.util.ArrayList;
import java.util.List;
import java.util.Set;

/**
 * Runs of calls in the form of the document's examples, each on a new object:
 * {@code addString() = 0; addModule(0, 800, 400) = 0; photocurrent(1) = NO_SUCH_MODULE}.
 *
 * <p>A call without {@code =} only prepares. {@code array(2, 0)} prepares strings with so many
 * modules of 800 and 400. {@code layout(0) = 2 1} looks at every position of a string. Behind a
 * {@code #} stands a comment. For a call that is refused, that only asks, or that has
 * {@code unchanged} behind its answer, the whole state with the call is compared to that without it.
 */
final class Runs {
    private static final int MOST_CALLS = 512;
    private static final long LAST_ERROR = -1001;
    private static final long MOST_SECONDS = 120;
    private static final int MOST_MODULES = 24;
    private static final Set<String> CHANGING = Set.of("addString", "addModule", "setIrradiance", "shade",
            "setResistance", "setBypassDiode", "setDiodeDrop", "moveModule", "swapModules", "regroup");

    private static int runs = 0;
    private static int wrong = 0;
    private static String sentence = "";

    private Runs() {
    }

    /** One call of a run: its name and arguments, and its due answer or null. */
    private record Call(String text, String name, String[] arguments, String due, boolean unchanged) {
    }

    /** What the document says, then a run of calls that would go wrong if it were broken. */
    static void run(String where, String text, String calls) {
        runs++;
        sentence = where + ", \"" + text + "\"";
        try {
            List<Call> all = parse(calls);
            answer(all);
            for (int n = 0; n < all.size(); n++) {
                if (changesNothing(all, n)) {
                    compare(all, n);
                }
            }
        } catch (InvocationTargetException e) {
            report("a call throws " + e.getCause());
        } catch (ReflectiveOperationException | IllegalArgumentException e) {
            report("the run can't be read: " + e);
        }
    }

    /** A number that no call answers. */
    static void same(String where, String text, long is, long due) {
        runs++;
        sentence = where + ", \"" + text + "\"";
        if (is != due) {
            report(is + " stands there, due is " + due);
        }
    }

    static void end() {
        System.out.println(wrong == 0 ? runs + " runs, all answers are as due"
                : wrong + " answers are not as due");
        if (wrong != 0) {
            System.exit(1);
        }
    }

    /** A call that never ends fails the test, instead of holding it up. */
    static void begin() {
        Thread watch = new Thread(() -> {
            try {
                Thread.sleep(MOST_SECONDS * 1000);
                System.out.println("no end in sight: " + sentence);
                Runtime.getRuntime().halt(1);
            } catch (InterruptedException e) {
                System.out.println("the watch was stopped");
            }
        });
        watch.setDaemon(true);
        watch.start();
    }

    private static void report(String what) {
        wrong++;
        System.out.println(sentence + ": " + what);
    }

    private static List<Call> parse(String calls) {
        List<Call> all = new ArrayList<>();
        for (String piece : calls.replaceAll("#[^\n]*", "").split("[;\n]")) {
            if (!piece.isBlank()) {
                all.add(parseCall(piece.strip()));
            }
        }
        return all;
    }

    private static Call parseCall(String text) {
        int open = text.indexOf('(');
        int close = text.indexOf(')');
        if (open < 0 || close < open) {
            throw new IllegalArgumentException(text);
        }
        String inside = text.substring(open + 1, close).strip();
        String rest = text.substring(close + 1).strip();
        boolean unchanged = rest.endsWith("unchanged");
        String due = rest.replace("unchanged", "").strip();
        if (!due.isEmpty() && !due.startsWith("=")) {
            throw new IllegalArgumentException(text);
        }
        return new Call(text, text.substring(0, open), inside.isEmpty() ? new String[0] : inside.split("\\s*,\\s*"),
                due.isEmpty() ? null : due.substring(1).strip(), unchanged);
    }

    private static void answer(List<Call> all) throws ReflectiveOperationException {
        Counted x = new Counted();
        for (Call call : all) {
            String got = x.call(call);
            if (call.due != null && !got.equals(number(call.due))) {
                report(call.text + ", but the answer was " + got);
            }
        }
        if (x.calls > MOST_CALLS) {
            report("the run has " + x.calls + " calls, and the document promises no answer beyond " + MOST_CALLS);
        }
    }

    private static boolean changesNothing(List<Call> all, int n) {
        Call call = all.get(n);
        if (call.name.equals("array") || call.name.equals("layout")) {
            return false;
        }
        return call.unchanged || !CHANGING.contains(call.name) || isError(call.due);
    }

    private static boolean isError(String due) {
        return due != null && Long.parseLong(number(due)) <= LAST_ERROR;
    }

    private static void compare(List<Call> all, int n) throws ReflectiveOperationException {
        Counted with = new Counted();
        Counted without = new Counted();
        for (Call call : all.subList(0, n)) {
            with.call(call);
            without.call(call);
        }
        with.call(all.get(n));
        String one = with.state();
        String other = without.state();
        // Beyond the last call that the document speaks of, nothing can be compared.
        if (with.calls <= MOST_CALLS && !one.equals(other)) {
            report(all.get(n).text + " changes the object from\n    " + other + "\n  to\n    " + one);
        }
    }

    /** A number, also one that is written by its name, as digits; a layout as it is. */
    private static String number(String text) {
        return switch (text) {
            case "NO_SUCH_STRING" -> "-1001";
            case "NO_SUCH_MODULE" -> "-1002";
            case "BAD_VALUE" -> "-1003";
            case "FULL" -> "-1004";
            case "NONE" -> "-1005";
            case "NO_POWER" -> Long.toString(Long.MIN_VALUE);
            case "LEAST" -> Integer.toString(Integer.MIN_VALUE);
            case "MOST" -> Integer.toString(Integer.MAX_VALUE);
            default -> text;
        };
    }

    /** An object and the number of calls that it has had. */
    private static final class Counted {
        private final PvArray x = new PvArray();
        private int calls = 0;

        private String call(Call call) throws ReflectiveOperationException {
            if (call.name.equals("array")) {
                return prepare(call.arguments);
            }
            if (call.name.equals("layout")) {
                return layout(Integer.parseInt(call.arguments[0]));
            }
            for (Method m : PvArray.class.getDeclaredMethods()) {
                if (m.getName().equals(call.name) && m.getParameterCount() == call.arguments.length) {
                    calls++;
                    return m.invoke(x, values(m.getParameterTypes(), call.arguments)).toString();
                }
            }
            throw new IllegalArgumentException(call.text);
        }

        private static Object[] values(Class<?>[] types, String[] arguments) {
            Object[] values = new Object[arguments.length];
            for (int a = 0; a < arguments.length; a++) {
                if (types[a] == boolean.class) {
                    values[a] = Boolean.valueOf(arguments[a]);
                } else {
                    values[a] = Integer.valueOf(number(arguments[a]));
                }
            }
            return values;
        }

        private String prepare(String[] sizes) {
            for (int s = 0; s < sizes.length; s++) {
                x.addString();
                int size = Integer.parseInt(sizes[s]);
                for (int p = 0; p < size; p++) {
                    x.addModule(s, 800, 400);
                }
                calls += 1 + size;
            }
            return "";
        }

        private String layout(int string) {
            List<String> modules = new ArrayList<>();
            int module = x.moduleAt(string, 0);
            calls++;
            for (int p = 1; module >= 0 && p <= MOST_MODULES; p++) {
                boolean agrees = x.stringOf(module) == string;
                modules.add(agrees ? Integer.toString(module) : module + " of another string");
                module = x.moduleAt(string, p);
                calls += 2;
            }
            return module != PvArray.NONE ? modules + " and then " + module
                    : modules.isEmpty() ? "empty" : String.join(" ", modules);
        }

        /** All that an object holds; it is of no use afterwards, as some can only be read by setting it. */
        private String state() {
            StringBuilder text = new StringBuilder();
            for (int s = 0; s < 6; s++) {
                text.append("string ").append(layout(s)).append("; ");
            }
            for (int m = 0; m < MOST_MODULES && x.stringOf(m) >= 0; m++) {
                text.append("module ").append(x.photocurrent(m)).append(' ').append(x.setIrradiance(m, 1000))
                        .append(' ').append(x.photocurrent(m)).append(' ').append(x.moduleVoltage(m, 0))
                        .append(' ').append(x.setResistance(m, 0)).append(' ').append(x.setBypassDiode(m, true))
                        .append("; ");
                calls += 7;
            }
            text.append("drop ").append(x.setDiodeDrop(7));
            calls += 2;
            return text.toString();
        }
    }
}
