/** Every method where there is nothing yet, where a string is empty or dark, and where all is full. */
public final class EmptyAndFullBoundaries {
    private static void noStrings() {
        Runs.run("Promise 1", "an array without strings and modules (each method of a string)", """
                addModule(0, 800, 400) = NO_SUCH_STRING; moduleAt(0, 0) = NO_SUCH_STRING
                currentLimit(0) = NO_SUCH_STRING; stringVoltage(0, 0) = NO_SUCH_STRING; stringPower(0, 0) = NO_POWER
                bypassedModules(0, 0) = NO_SUCH_STRING; peakCount(0) = NO_SUCH_STRING
                peakCurrent(0, 0) = NO_SUCH_STRING; bestCurrent(0) = NO_SUCH_STRING; bestPower(0) = NO_POWER
                perturbAndObserve(0, 0, 1, 1) = NO_SUCH_STRING; scanAndClimb(0, 1) = NO_SUCH_STRING
                """);
        Runs.run("Promise 1", "an array without strings and modules (each method of a module)", """
                setIrradiance(0, 0) = NO_SUCH_MODULE; shade(0, 0, 100) = NO_SUCH_MODULE
                setResistance(0, 5000) = NO_SUCH_MODULE; setBypassDiode(0, false) = NO_SUCH_MODULE
                moveModule(0, 0) = NO_SUCH_MODULE; swapModules(0, 0) = NO_SUCH_MODULE
                stringOf(0) = NO_SUCH_MODULE; photocurrent(0) = NO_SUCH_MODULE
                moduleVoltage(0, 0) = NO_SUCH_MODULE; modulePeakPower(0) = NO_POWER
                """);
        Runs.run("Promise 1", "an array without strings and modules (each method of the array)", """
                arrayCurrent(0) = 0; arrayCurrent(7200) = 0; bestArrayVoltage() = 0; totalBestPower() = 0
                mismatchLoss() = 0; bestSwapGain() = 0; bestSwapLower() = NONE; bestSwapHigher() = NONE
                regroup() = 0 unchanged
                """);
        Runs.run("Promise 1", "an array without strings and modules (strings alone make no module)", """
                array(0, 0, 0, 0, 0, 0)
                setIrradiance(0, 0) = NO_SUCH_MODULE; shade(0, 0, 100) = NO_SUCH_MODULE
                setResistance(0, 5000) = NO_SUCH_MODULE; setBypassDiode(0, false) = NO_SUCH_MODULE
                moveModule(0, 0) = NO_SUCH_MODULE; swapModules(0, 0) = NO_SUCH_MODULE
                stringOf(0) = NO_SUCH_MODULE; photocurrent(0) = NO_SUCH_MODULE
                moduleVoltage(0, 0) = NO_SUCH_MODULE; modulePeakPower(0) = NO_POWER
                """);
    }

    private static void emptyString() {
        Runs.run("Strings", "The current limit of an empty string is 0 (each method of a string)", """
                array(1, 0)
                moduleAt(1, 0) = NONE; currentLimit(1) = 0; stringVoltage(1, 0) = 0; stringPower(1, 0) = 0
                bypassedModules(1, 0) = 0; peakCount(1) = 0; peakCurrent(1, 0) = NONE
                bestCurrent(1) = 0; bestPower(1) = 0
                perturbAndObserve(1, 0, 100, 200) = 0; scanAndClimb(1, 1) = 0; scanAndClimb(1, 500) = 0
                """);
        Runs.run("Strings", "The current limit of an empty string is 0 (no other current)", """
                array(1, 0)
                stringVoltage(1, 1) = BAD_VALUE; stringPower(1, 1) = NO_POWER; bypassedModules(1, 1) = BAD_VALUE
                perturbAndObserve(1, 1, 1, 1) = BAD_VALUE
                stringVoltage(1, -1) = BAD_VALUE; stringPower(1, -1) = NO_POWER; bypassedModules(1, -1) = BAD_VALUE
                perturbAndObserve(1, -1, 1, 1) = BAD_VALUE
                """);
        Runs.run("Strings", "The current limit of an empty string is 0 (each method of the array)", """
                array(0, 0)
                arrayCurrent(0) = 0; arrayCurrent(1) = 0; bestArrayVoltage() = 0; totalBestPower() = 0
                mismatchLoss() = 0; bestSwapGain() = 0; regroup() = 0 unchanged
                """);
        Runs.run("Strings", "The current limit of an empty string is 0 (its modules have left)", """
                array(2, 0)
                setIrradiance(1, 0); moveModule(0, 1) = 0; moveModule(1, 1) = 1
                layout(0) = empty; currentLimit(0) = 0; stringVoltage(0, 0) = 0; stringPower(0, 0) = 0
                bypassedModules(0, 0) = 0; peakCount(0) = 0; bestCurrent(0) = 0; bestPower(0) = 0
                bypassedModules(1, 1) = 2; bestPower(1) = 314400; arrayCurrent(393) = 800
                """);
    }

    private static void darkString() {
        Runs.run("Strings", "A string can carry every current from 0 to its current limit (of 0, with modules)", """
                array(2)
                shade(0, 1, 100); currentLimit(0) = 0
                stringVoltage(0, 0) = 800; stringVoltage(0, 1) = BAD_VALUE; stringPower(0, 0) = 0
                stringPower(0, 1) = NO_POWER; bypassedModules(0, 0) = 0; bypassedModules(0, 1) = BAD_VALUE
                peakCount(0) = 0; peakCurrent(0, 0) = NONE; bestCurrent(0) = 0; bestPower(0) = 0
                perturbAndObserve(0, 0, 1, 200) = 0; scanAndClimb(0, 1) = 0
                arrayCurrent(0) = 0; arrayCurrent(800) = 0; bestArrayVoltage() = 0; mismatchLoss() = 0
                """);
    }

    private static void fullString() {
        Runs.run("Promise 3", "the string already has 12 modules (each method of a string)", """
                array(12)
                setIrradiance(11, 500)
                moduleAt(0, 11) = 11; moduleAt(0, 12) = NONE; currentLimit(0) = 800
                stringVoltage(0, 400) = 4800; stringVoltage(0, 401) = 4393; stringPower(0, 800) = 3514400
                bypassedModules(0, 800) = 2048; peakCount(0) = 2; peakCurrent(0, 1) = 800
                bestCurrent(0) = 800; bestPower(0) = 3514400
                perturbAndObserve(0, 0, 100, 200) = 800; scanAndClimb(0, 500) = 800
                arrayCurrent(4800) = 400; arrayCurrent(4393) = 800; bestArrayVoltage() = 4393
                mismatchLoss() = 165600
                """);
    }

    private static void fullArray() {
        String full = "array(4, 4, 4, 4, 4, 4);";
        Runs.run("Promise 3", "there are already 24 modules (each method that sets a module)", full + """
                setIrradiance(23, 500) = 1000; setIrradiance(24, 500) = NO_SUCH_MODULE
                shade(22, 23, 50) = 2; shade(23, 24, 50) = NO_SUCH_MODULE; shade(24, 24, 50) = NO_SUCH_MODULE
                setResistance(23, 1) = 0; setResistance(24, 1) = NO_SUCH_MODULE
                setBypassDiode(23, false) = 1; setBypassDiode(24, false) = NO_SUCH_MODULE
                """);
        Runs.run("Promise 3", "there are already 24 modules (each method that asks a module)", full + """
                setIrradiance(23, 500)
                stringOf(23) = 5; stringOf(24) = NO_SUCH_MODULE
                photocurrent(23) = 400; photocurrent(24) = NO_SUCH_MODULE
                moduleVoltage(23, 400) = 400; moduleVoltage(24, 400) = NO_SUCH_MODULE
                modulePeakPower(23) = 160000; modulePeakPower(24) = NO_POWER
                """);
        Runs.run("Promise 3", "there are already 24 modules (each method that moves one)", full + """
                moveModule(24, 0) = NO_SUCH_MODULE; moveModule(23, 5) = 3 unchanged; moveModule(23, 0) = 4
                layout(0) = 0 1 2 3 23; layout(5) = 20 21 22
                swapModules(23, 24) = NO_SUCH_MODULE; swapModules(24, 23) = NO_SUCH_MODULE
                swapModules(23, 22) = 1; layout(0) = 0 1 2 3 22; layout(5) = 20 21 23
                """);
        Runs.run("Promise 2", "there are already 6 strings (each method of a string)", full + """
                addString() = FULL; setIrradiance(23, 500)
                addModule(6, 800, 400) = NO_SUCH_STRING; addModule(5, 800, 400) = FULL
                moveModule(0, 6) = NO_SUCH_STRING; moduleAt(5, 3) = 23; moduleAt(6, 0) = NO_SUCH_STRING
                currentLimit(5) = 800; currentLimit(6) = NO_SUCH_STRING
                stringVoltage(5, 401) = 1193; stringVoltage(6, 0) = NO_SUCH_STRING
                stringPower(5, 800) = 954400; stringPower(6, 0) = NO_POWER
                bypassedModules(5, 800) = 8; bypassedModules(6, 0) = NO_SUCH_STRING
                """);
        Runs.run("Promise 2", "there are already 6 strings (each method of a power curve)", full + """
                setIrradiance(23, 500)
                peakCount(5) = 2; peakCount(6) = NO_SUCH_STRING
                peakCurrent(5, 1) = 800; peakCurrent(6, 0) = NO_SUCH_STRING
                bestCurrent(5) = 800; bestCurrent(6) = NO_SUCH_STRING; bestPower(5) = 954400; bestPower(6) = NO_POWER
                perturbAndObserve(5, 0, 100, 4) = 400; perturbAndObserve(6, 0, 1, 1) = NO_SUCH_STRING
                scanAndClimb(5, 400) = 800; scanAndClimb(6, 1) = NO_SUCH_STRING
                """);
        Runs.run("Array", "the sum over all strings (all 6)", full + """
                arrayCurrent(0) = 4800; arrayCurrent(1600) = 4800; arrayCurrent(1601) = 0
                setIrradiance(23, 0); arrayCurrent(1193) = 4800; arrayCurrent(1194) = 4000
                bestArrayVoltage() = 1600; totalBestPower() = 7354400; mismatchLoss() = 5600
                """);
    }

    private static void fullExchange() {
        String dark = "array(4, 4, 4, 4, 4, 4); setIrradiance(0, 0); setIrradiance(23, 0);"
                + "setBypassDiode(0, false); setBypassDiode(23, false);";
        Runs.run("Promise 30", "the best exchange of two modules of different strings (24 modules)",
                dark + "bestSwapGain() = 1280000");
        Runs.run("Promise 31", "the lower module index of the best exchange (24 modules)",
                dark + "bestSwapLower() = 0");
        Runs.run("Promise 32", "the higher module index of the best exchange (24 modules)",
                dark + "bestSwapHigher() = 20");
        Runs.run("Promise 32", "the higher module index of the best exchange (the last of 24)",
                "array(12, 12); shade(0, 0, 100); shade(12, 22, 100); setDiodeDrop(0); setBypassDiode(0, false);"
                + "totalBestPower() = 320000; bestSwapLower() = 0; bestSwapHigher() = 23; bestSwapGain() = 3520000;"
                + "swapModules(0, 23) = 1; totalBestPower() = 3840000");
        Runs.run("Promise 33", "Regroups all modules (24 in 6 strings)", dark + """
                regroup() = 6
                layout(0) = 1 2 3 4; layout(1) = 5 6 7 8; layout(4) = 17 18 19 20; layout(5) = 21 22 0 23
                """);
    }

    public static void main(String[] args) {
        Runs.begin();
        noStrings();
        emptyString();
        darkString();
        fullString();
        fullArray();
        fullExchange();
        Runs.end();
    }
}
