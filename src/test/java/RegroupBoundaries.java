/** The boundary cases that promises 30 to 33 name: the best exchange, and regrouping. */
public final class RegroupBoundaries {
    /** Example 4's array: exchanging 0 with 3, or 1 with 2, gains 267200. */
    private static final String TWO_SHADED = "array(2, 2); setIrradiance(0, 400); setIrradiance(2, 400);";

    /** A run for each of the three promises, so that none leans on a call of another. */
    private static void noGain(String which, String calls) {
        String sentence = "if no exchange has a gain greater than 0 (" + which + ")";
        Runs.run("Promise 30", "0 " + sentence, calls + "; bestSwapGain() = 0");
        Runs.run("Promise 31", "NONE " + sentence, calls + "; bestSwapLower() = NONE");
        Runs.run("Promise 32", "NONE " + sentence, calls + "; bestSwapHigher() = NONE");
    }

    private static void noExchange() {
        noGain("no strings", "");
        noGain("no modules", "array(0, 0)");
        noGain("one module", "array(1, 0)");
        noGain("one string", "array(3); setIrradiance(1, 500)");
        noGain("empty strings beside one", "array(0, 3, 0); setIrradiance(1, 500)");
        noGain("all alike: every gain is 0", "array(2, 2)");
        noGain("every gain is below 0", """
                array(2, 2)
                shade(0, 1, 60)
                totalBestPower() = 896000; swapModules(0, 2) = 1; totalBestPower() = 628800; swapModules(0, 2) = 1
                """);
        noGain("one module in each string: every gain is 0", """
                array(1, 1, 1)
                setIrradiance(0, 100); setIrradiance(2, 900)
                """);
        noGain("it has been carried out", TWO_SHADED + """
                bestSwapGain() = 267200; swapModules(0, 3) = 1
                """);
        noGain("all is dark now", TWO_SHADED + """
                bestSwapGain() = 267200; bestSwapLower() = 0; bestSwapHigher() = 3; shade(0, 3, 100) = 4
                """);
    }

    private static void gains() {
        Runs.run("Promise 30", "Returns the gain of the best exchange", TWO_SHADED + "bestSwapGain() = 267200");
        Runs.run("Promise 31", "Returns the lower module index of the best exchange", TWO_SHADED
                + "bestSwapLower() = 0; swapModules(0, 3) = 1; setIrradiance(1, 400); setIrradiance(2, 1000);"
                + "layout(0) = 3 1; layout(1) = 2 0; bestSwapLower() = 0");
        Runs.run("Promise 32", "Returns the higher module index of the best exchange", TWO_SHADED
                + "bestSwapHigher() = 3; setIrradiance(2, 1000); setIrradiance(3, 400); bestSwapHigher() = 2");
    }

    private static void bestSwapGain() {
        Runs.run("Promise 30", "the best exchange of two modules of different strings", """
                array(3, 1)
                setIrradiance(0, 500)    # within its string no exchange gains
                bestSwapGain() = 165600; bestSwapLower() = 0; bestSwapHigher() = 3
                """);
        Runs.run("Promise 30", "0 if no exchange has a gain greater than 0 (1 is greater)", """
                array(0, 0); addModule(0, 2, 1); addModule(0, 1, 1); addModule(1, 2, 1)
                setDiodeDrop(0)
                totalBestPower() = 4; swapModules(1, 2) = 1; totalBestPower() = 5; swapModules(1, 2) = 1
                bestSwapGain() = 1; bestSwapLower() = 1; bestSwapHigher() = 2
                """);
        Runs.run("Promise 30", "the sum of the best powers of all strings (a string that takes no part)", """
                array(2, 2, 3)
                setIrradiance(0, 400); setIrradiance(2, 400)
                totalBestPower() = 1588800; bestSwapGain() = 267200; bestSwapLower() = 0; bestSwapHigher() = 3
                swapModules(0, 3) = 1; totalBestPower() = 1856000
                """);
        Runs.run("Promise 30", "Nothing is exchanged by this method", TWO_SHADED + """
                bestSwapGain() = 267200 unchanged; bestSwapLower() = 0 unchanged; bestSwapHigher() = 3 unchanged
                layout(0) = 0 1; layout(1) = 2 3; totalBestPower() = 628800; bestSwapGain() = 267200
                """);
        Runs.run("Promise 30", "the best exchange of two modules (the first and the last of 24)", """
                array(12, 12)
                setIrradiance(0, 0); setIrradiance(12, 0); setBypassDiode(0, false); setBypassDiode(12, false)
                bestSwapGain() = 3840000; bestSwapLower() = 0; bestSwapHigher() = 13
                swapModules(12, 23) = 0; bestSwapHigher() = 13
                shade(13, 22, 100); bestSwapLower() = 0; bestSwapHigher() = 23
                """);
    }

    private static void ties() {
        Runs.run("Promise 31", "If several exchanges have the greatest gain, the best one has the lowest index of its lower module", TWO_SHADED + """
                bestSwapLower() = 0; bestSwapHigher() = 3; bestSwapGain() = 267200
                swapModules(1, 2) = 1; totalBestPower() = 896000    # 1 with 2 gains as much
                """);
        Runs.run("Promise 31", "the lowest index of its lower module (a later one that gains more goes first)", """
                array(1, 2, 2)
                setIrradiance(1, 400); setIrradiance(3, 400)
                bestSwapLower() = 1; bestSwapHigher() = 4; bestSwapGain() = 267200
                """);
        Runs.run("Promise 32", "if there are still several, it has the lowest index of its higher module", """
                array(2, 2, 2)
                setIrradiance(0, 400); setIrradiance(2, 400); setIrradiance(4, 400)
                bestSwapLower() = 0; bestSwapHigher() = 3; bestSwapGain() = 267200
                swapModules(0, 5) = 1; totalBestPower() = 1210400    # 0 with 5 gains as much
                swapModules(0, 5) = 1; totalBestPower() = 943200
                """);
        Runs.run("Promise 32", "if there are still several (two of one string)", """
                array(1, 4)
                shade(1, 2, 60); swapModules(1, 2) = 0; layout(1) = 2 1 3 4
                bestSwapLower() = 0; bestSwapHigher() = 1; bestSwapGain() = 133600
                totalBestPower() = 948800; swapModules(0, 2) = 1; totalBestPower() = 1082400
                """);
        Runs.run("Promise 32", "the higher module index of the best exchange (wherever the two stand)", TWO_SHADED + """
                swapModules(0, 2) = 1; swapModules(1, 3) = 1; layout(0) = 2 3; layout(1) = 0 1
                bestSwapLower() = 0; bestSwapHigher() = 3
                moveModule(0, 1) = 1; moveModule(2, 0) = 1; layout(0) = 3 2; layout(1) = 1 0
                bestSwapLower() = 0; bestSwapHigher() = 3
                """);
    }

    private static void regroup() {
        Runs.run("Promise 33", "Regroups all modules (no strings, no modules)", """
                regroup() = 0 unchanged; addString(); addString(); regroup() = 0 unchanged
                layout(0) = empty; layout(1) = empty
                """);
        Runs.run("Promise 33", "Regroups all modules (one)", """
                array(0, 1, 0)
                regroup() = 0 unchanged; layout(1) = 0
                """);
        Runs.run("Promise 33", "The modules are sorted by decreasing photocurrent", """
                array(2, 2)
                setIrradiance(0, 997); setIrradiance(1, 998); setIrradiance(2, 1001); setIrradiance(3, 1002)
                photocurrent(0) = 797; photocurrent(1) = 798; photocurrent(2) = 800; photocurrent(3) = 801
                regroup() = 4; layout(0) = 3 2; layout(1) = 1 0
                """);
        Runs.run("Promise 33", "by decreasing photocurrent (not by irradiance or rated current)", """
                array(0, 0); addModule(0, 500, 400); addModule(1, 1000, 400)
                setIrradiance(1, 400); photocurrent(0) = 500; photocurrent(1) = 400; regroup() = 0
                setIrradiance(0, 800); photocurrent(0) = 400; regroup() = 0
                setIrradiance(0, 798); photocurrent(0) = 399; regroup() = 2
                """);
        Runs.run("Promise 33", "modules with equal photocurrents are sorted by increasing index", """
                array(2, 2)
                swapModules(0, 3) = 1; swapModules(1, 2) = 1; layout(0) = 3 2; layout(1) = 1 0
                setIrradiance(3, 1001); photocurrent(3) = 800    # the irradiance does not count
                regroup() = 4; layout(0) = 0 1; layout(1) = 2 3
                regroup() = 0 unchanged
                """);
        Runs.run("Promise 33", "modules with equal photocurrents are sorted by increasing index (of 0)", """
                array(1, 2)
                shade(0, 2, 100); swapModules(0, 2) = 1; layout(1) = 1 0
                regroup() = 2; layout(0) = 0; layout(1) = 1 2
                """);
        Runs.run("Promise 33", "sorted by decreasing photocurrent (once more, in another order)", """
                array(2, 2)
                setIrradiance(3, 1200); regroup() = 2; layout(0) = 3 0; layout(1) = 1 2
                setIrradiance(3, 0); setIrradiance(2, 1200); regroup() = 2; layout(0) = 2 0; layout(1) = 1 3
                shade(0, 3, 100); regroup() = 2; layout(0) = 0 1; layout(1) = 2 3
                """);
        Runs.run("Promise 33", "each string gets as many modules as it had before", """
                array(1, 0, 3, 0, 2, 0)
                setIrradiance(5, 1200); setIrradiance(0, 0)
                regroup() = 2
                layout(0) = 5; layout(1) = empty; layout(2) = 1 2 3; layout(3) = empty; layout(4) = 4 0
                layout(5) = empty
                """);
        Runs.run("Promise 33", "each string gets as many modules as it had before (full strings)", """
                array(12, 12)
                shade(0, 11, 50) = 12
                regroup() = 24; layout(0) = 12 13 14 15 16 17 18 19 20 21 22 23
                layout(1) = 0 1 2 3 4 5 6 7 8 9 10 11
                """);
        Runs.run("Promise 33", "in sorted order, starting at position 0", """
                array(3)
                setIrradiance(0, 100); setIrradiance(2, 1100)
                regroup() = 0; layout(0) = 2 1 0
                """);
        Runs.run("Promise 33", "Returns the number of modules that are in another string than before", """
                array(2, 2)
                setIrradiance(0, 1200); setIrradiance(3, 1100)
                regroup() = 2; layout(0) = 0 3; layout(1) = 1 2
                swapModules(0, 3) = 0; regroup() = 0; layout(0) = 0 3    # another position alone does not count
                swapModules(0, 1) = 1; regroup() = 2; layout(0) = 0 3
                """);
    }

    public static void main(String[] args) {
        Runs.begin();
        noExchange();
        gains();
        bestSwapGain();
        ties();
        regroup();
        Runs.end();
    }
}
