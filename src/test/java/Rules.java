import java.lang.reflect.Constructor;
import java.lang.reflect.Field;
import java.lang.reflect.Method;
import java.lang.reflect.Modifier;
import java.nio.file.Files;
import java.nio.file.Path;
import java.util.Set;
import java.util.TreeSet;
import java.util.regex.Matcher;
import java.util.regex.Pattern;

/** The face of the class is the document's and no wider, and its text keeps to the language rules. */
public final class Rules {
    private static final String[] FACE = {
        "final int NO_SUCH_STRING", "final int NO_SUCH_MODULE", "final int BAD_VALUE", "final int FULL",
        "final int NONE", "final long NO_POWER",
        "int addString()", "int addModule(int, int, int)", "int setIrradiance(int, int)",
        "int shade(int, int, int)", "int setResistance(int, int)", "int setBypassDiode(int, boolean)",
        "int setDiodeDrop(int)", "int moveModule(int, int)", "int swapModules(int, int)",
        "int stringOf(int)", "int moduleAt(int, int)", "int photocurrent(int)",
        "int moduleVoltage(int, int)", "long modulePeakPower(int)", "int currentLimit(int)",
        "int stringVoltage(int, int)", "long stringPower(int, int)", "int bypassedModules(int, int)",
        "int peakCount(int)", "int peakCurrent(int, int)", "int bestCurrent(int)", "long bestPower(int)",
        "int perturbAndObserve(int, int, int, int)", "int scanAndClimb(int, int)",
        "int arrayCurrent(int)", "int bestArrayVoltage()", "long totalBestPower()",
        "long mismatchLoss()", "long bestSwapGain()", "int bestSwapLower()", "int bestSwapHigher()",
        "int regroup()", "PvArray()"
    };

    private static int wrong = 0;

    private static void check(boolean right, String what) {
        if (!right) {
            wrong++;
            System.out.println(what);
        }
    }

    private static String parameters(Class<?>[] types) {
        StringBuilder text = new StringBuilder("(");
        for (Class<?> type : types) {
            text.append(text.length() > 1 ? ", " : "").append(type.getName());
        }
        return text.append(")").toString();
    }

    private static void checkFace() {
        Set<String> found = new TreeSet<>();
        for (Field f : PvArray.class.getDeclaredFields()) {
            if (!Modifier.isPrivate(f.getModifiers()) && !f.isSynthetic()) {
                found.add((Modifier.isFinal(f.getModifiers()) ? "final " : "") + f.getType().getName() + " " + f.getName());
                check(Modifier.isPublic(f.getModifiers()) && Modifier.isStatic(f.getModifiers()),
                        f + " is not a public constant");
            } else if (Modifier.isStatic(f.getModifiers())) {
                check(Modifier.isFinal(f.getModifiers()), f + " is static state");
            }
        }
        Set<String> publicNames = new TreeSet<>();
        for (Method m : PvArray.class.getDeclaredMethods()) {
            if (!Modifier.isPrivate(m.getModifiers()) && !m.isSynthetic()) {
                found.add(m.getReturnType().getName() + " " + m.getName() + parameters(m.getParameterTypes()));
                publicNames.add(m.getName());
                check(Modifier.isPublic(m.getModifiers()) && !Modifier.isStatic(m.getModifiers()),
                        m + " is not a public method of objects");
            }
        }
        for (Constructor<?> c : PvArray.class.getDeclaredConstructors()) {
            found.add("PvArray" + parameters(c.getParameterTypes()));
            check(Modifier.isPublic(c.getModifiers()), c + " is not public");
        }
        Set<String> wanted = new TreeSet<>(Set.of(FACE));
        check(found.equals(wanted), "the face is " + found + ", due is " + wanted);
        check(Modifier.isFinal(PvArray.class.getModifiers()), "PvArray is not final");
        checkPrivateNames(PvArray.class, publicNames);
        for (Class<?> inside : PvArray.class.getDeclaredClasses()) {
            check(Modifier.isStatic(inside.getModifiers()), inside + " is not static");
            checkPrivateNames(inside, publicNames);
        }
    }

    private static void checkPrivateNames(Class<?> of, Set<String> publicNames) {
        for (Method m : of.getDeclaredMethods()) {
            boolean ofFace = of == PvArray.class && Modifier.isPublic(m.getModifiers());
            check(ofFace || !publicNames.contains(m.getName()), m + " bears the name of a public method");
            check(m.getParameterCount() <= 7, m + " has too many parameters");
        }
    }

    private static void checkText() throws Exception {
        String text = Files.readString(Path.of("src/main/java/PvArray.java"));
        for (int i = 0; i < text.length(); i++) {
            check(text.charAt(i) < 128, "a sign above 127 stands at " + i);
        }
        String code = text.replaceAll("(?s)/\\*.*?\\*/", " ").replaceAll("//[^\n]*", " ");
        String forbidden = "\\b(throw|throws|try|catch|finally|synchronized|assert|import|package|native"
                + "|transient|volatile|double|float|System|Thread|Object|equals|hashCode|toString"
                + "|\\w+Exact)\\b|->|::";
        Matcher m = Pattern.compile(forbidden).matcher(code);
        while (m.find()) {
            check(false, "the program holds '" + m.group() + "'");
        }
    }

    public static void main(String[] args) throws Exception {
        checkFace();
        checkText();
        System.out.println(wrong == 0 ? "the rules are kept" : wrong + " rules are broken");
        if (wrong != 0) {
            System.exit(1);
        }
    }
}
