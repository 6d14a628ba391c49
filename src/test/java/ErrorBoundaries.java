/** What the document's Errors say, for every method: the order of the checks, and that nothing changes. */
public final class ErrorBoundaries {
    /** Every setting differs from a new one's, no string is in the order of the indices, one is empty. */
    private static final String WORN = "array(3, 2, 0); setDiodeDrop(5); setIrradiance(1, 500); shade(4, 4, 10);"
            + "setResistance(2, 100); setBypassDiode(3, false); swapModules(0, 4); moveModule(1, 0);";

    /** Strings of 12 and 11 modules and an empty one: the first is full, and one more module has room. */
    private static final String ALMOST_FULL = "array(12, 11, 0);";

    private static final String FULL = "array(12, 11, 1);";

    private static void order(String method, String calls) {
        Runs.run("Errors", "the order of the @return line is the order of the checks (" + method + ")", calls);
    }

    private static void orderOfBuilding() {
        order("addModule: NO_SUCH_STRING before BAD_VALUE", """
                addModule(0, 0, 0) = NO_SUCH_STRING; addString(); addModule(0, 0, 0) = BAD_VALUE
                addModule(1, 0, 400) = NO_SUCH_STRING; addModule(-1, 800, 601) = NO_SUCH_STRING
                """);
        order("addModule: NO_SUCH_STRING before FULL", FULL + """
                addModule(3, 800, 400) = NO_SUCH_STRING; addModule(-1, 800, 400) = NO_SUCH_STRING
                addModule(3, 0, 0) = NO_SUCH_STRING; addModule(2, 800, 400) = FULL
                """);
        order("addModule: BAD_VALUE before FULL, with 12 modules in the string", ALMOST_FULL + """
                addModule(0, 0, 400) = BAD_VALUE; addModule(0, 1001, 400) = BAD_VALUE
                addModule(0, 800, 0) = BAD_VALUE; addModule(0, 800, 601) = BAD_VALUE
                addModule(0, 800, 400) = FULL
                """);
        order("addModule: BAD_VALUE before FULL, with 24 modules", FULL + """
                addModule(2, 0, 400) = BAD_VALUE; addModule(2, 1001, 400) = BAD_VALUE
                addModule(2, 800, 0) = BAD_VALUE; addModule(2, 800, 601) = BAD_VALUE
                addModule(2, 800, 400) = FULL; addModule(0, 0, 0) = BAD_VALUE; addModule(0, 800, 400) = FULL
                """);
        order("setIrradiance: NO_SUCH_MODULE before BAD_VALUE", """
                setIrradiance(0, -1) = NO_SUCH_MODULE; array(1); setIrradiance(0, -1) = BAD_VALUE
                setIrradiance(1, 1201) = NO_SUCH_MODULE; setIrradiance(-1, -1) = NO_SUCH_MODULE
                """);
        order("shade: NO_SUCH_MODULE before BAD_VALUE", """
                shade(0, 0, 101) = NO_SUCH_MODULE; array(2)
                shade(2, 1, 50) = NO_SUCH_MODULE      # first is greater than last, too
                shade(0, -1, 50) = NO_SUCH_MODULE     # also here
                shade(2, 1, 101) = NO_SUCH_MODULE; shade(0, 2, -1) = NO_SUCH_MODULE
                shade(-1, 1, 101) = NO_SUCH_MODULE; shade(1, 0, 101) = BAD_VALUE; shade(1, 0, 50) = BAD_VALUE
                """);
        order("setResistance: NO_SUCH_MODULE before BAD_VALUE", """
                setResistance(0, -1) = NO_SUCH_MODULE; array(1); setResistance(0, -1) = BAD_VALUE
                setResistance(1, 5001) = NO_SUCH_MODULE; setResistance(-1, -1) = NO_SUCH_MODULE
                """);
    }

    private static void orderOfLayout() {
        order("moveModule: NO_SUCH_MODULE before NO_SUCH_STRING", """
                moveModule(0, 0) = NO_SUCH_MODULE; array(1); moveModule(0, 1) = NO_SUCH_STRING
                moveModule(1, 1) = NO_SUCH_MODULE; moveModule(-1, -1) = NO_SUCH_MODULE
                """);
        order("moveModule: NO_SUCH_MODULE before FULL", ALMOST_FULL + """
                moveModule(23, 0) = NO_SUCH_MODULE; moveModule(-1, 0) = NO_SUCH_MODULE; moveModule(22, 0) = FULL
                """);
        order("moveModule: NO_SUCH_STRING before FULL", "array(12, 12);" + """
                moveModule(23, 2) = NO_SUCH_STRING; moveModule(23, -1) = NO_SUCH_STRING; moveModule(23, 0) = FULL
                """);
        order("moduleAt: NO_SUCH_STRING before BAD_VALUE and NONE", """
                moduleAt(0, -1) = NO_SUCH_STRING; moduleAt(0, 0) = NO_SUCH_STRING; array(1)
                moduleAt(1, -1) = NO_SUCH_STRING; moduleAt(-1, 12) = NO_SUCH_STRING; moduleAt(0, -1) = BAD_VALUE
                """);
        order("moduleAt: BAD_VALUE before NONE", """
                array(0); moduleAt(0, -1) = BAD_VALUE; moduleAt(0, LEAST) = BAD_VALUE; moduleAt(0, 0) = NONE
                """);
    }

    private static void orderOfCurves() {
        order("moduleVoltage: NO_SUCH_MODULE before BAD_VALUE", """
                moduleVoltage(0, -1) = NO_SUCH_MODULE; array(1); moduleVoltage(0, -1) = BAD_VALUE
                moduleVoltage(1, 1201) = NO_SUCH_MODULE; moduleVoltage(-1, -1) = NO_SUCH_MODULE
                """);
        order("moduleVoltage: BAD_VALUE before NONE", """
                array(1); setBypassDiode(0, false); moduleVoltage(0, 1200) = NONE
                moduleVoltage(0, 1201) = BAD_VALUE; moduleVoltage(0, MOST) = BAD_VALUE
                """);
        order("stringVoltage: NO_SUCH_STRING before BAD_VALUE", """
                stringVoltage(0, -1) = NO_SUCH_STRING; array(1); stringVoltage(0, -1) = BAD_VALUE
                stringVoltage(1, 801) = NO_SUCH_STRING; stringVoltage(-1, -1) = NO_SUCH_STRING
                """);
        order("bypassedModules: NO_SUCH_STRING before BAD_VALUE", """
                bypassedModules(0, -1) = NO_SUCH_STRING; array(1); bypassedModules(0, -1) = BAD_VALUE
                bypassedModules(1, 801) = NO_SUCH_STRING; bypassedModules(-1, -1) = NO_SUCH_STRING
                """);
        order("peakCurrent: NO_SUCH_STRING before BAD_VALUE and NONE", """
                peakCurrent(0, -1) = NO_SUCH_STRING; peakCurrent(0, 0) = NO_SUCH_STRING; array(1)
                peakCurrent(1, -1) = NO_SUCH_STRING; peakCurrent(-1, 5) = NO_SUCH_STRING
                peakCurrent(0, -1) = BAD_VALUE
                """);
        order("peakCurrent: BAD_VALUE before NONE", """
                array(0); peakCurrent(0, -1) = BAD_VALUE; peakCurrent(0, LEAST) = BAD_VALUE; peakCurrent(0, 0) = NONE
                """);
        order("perturbAndObserve: NO_SUCH_STRING before BAD_VALUE", """
                perturbAndObserve(0, -1, 0, -1) = NO_SUCH_STRING; array(1)
                perturbAndObserve(0, -1, 0, -1) = BAD_VALUE; perturbAndObserve(1, 801, 1, 1) = NO_SUCH_STRING
                perturbAndObserve(1, 0, 101, 1) = NO_SUCH_STRING; perturbAndObserve(-1, 0, 1, 201) = NO_SUCH_STRING
                """);
        order("scanAndClimb: NO_SUCH_STRING before BAD_VALUE", """
                scanAndClimb(0, 0) = NO_SUCH_STRING; array(1); scanAndClimb(0, 0) = BAD_VALUE
                scanAndClimb(1, 501) = NO_SUCH_STRING; scanAndClimb(-1, 0) = NO_SUCH_STRING
                """);
    }

    private static void longErrors() {
        Runs.run("Errors", "A method that returns a long reports every error by NO_POWER", """
                modulePeakPower(0) = NO_POWER; stringPower(0, 0) = NO_POWER; bestPower(0) = NO_POWER; array(1)
                modulePeakPower(1) = NO_POWER; modulePeakPower(-1) = NO_POWER
                stringPower(1, 0) = NO_POWER; stringPower(0, 801) = NO_POWER; stringPower(0, -1) = NO_POWER
                stringPower(1, 801) = NO_POWER; stringPower(-1, -1) = NO_POWER
                bestPower(1) = NO_POWER; bestPower(-1) = NO_POWER
                """);
    }

    /** Runs compares the whole state before and after each of these, as each is refused. */
    private static void nothingChanges(String method, String calls) {
        Runs.run("Errors", "A call that reports an error changes nothing (" + method + ")", calls);
    }

    private static void refusedBuilding() {
        nothingChanges("addString", "array(2, 1, 0, 0, 0, 1); addString() = FULL; addString() = FULL");
        nothingChanges("addModule", WORN + """
                addModule(3, 700, 300) = NO_SUCH_STRING; addModule(-1, 700, 300) = NO_SUCH_STRING
                addModule(0, 0, 300) = BAD_VALUE; addModule(0, 700, 601) = BAD_VALUE
                addModule(2, 1001, 300) = BAD_VALUE; addModule(2, 700, 0) = BAD_VALUE
                addModule(2, 700, 300) = 5; layout(2) = 5
                """);
        nothingChanges("addModule, FULL", ALMOST_FULL + """
                addModule(0, 700, 300) = FULL; addModule(2, 700, 300) = 23
                addModule(2, 700, 300) = FULL; addModule(1, 700, 300) = FULL
                """);
        nothingChanges("setIrradiance", WORN + """
                setIrradiance(-1, 300) = NO_SUCH_MODULE; setIrradiance(5, 300) = NO_SUCH_MODULE
                setIrradiance(1, -1) = BAD_VALUE; setIrradiance(1, 1201) = BAD_VALUE; setIrradiance(1, 0) = 500
                """);
        nothingChanges("shade", WORN + """
                shade(-1, 4, 50) = NO_SUCH_MODULE; shade(0, 5, 50) = NO_SUCH_MODULE; shade(5, 4, 50) = NO_SUCH_MODULE
                shade(4, 0, 50) = BAD_VALUE; shade(1, 0, 50) = BAD_VALUE
                shade(0, 4, -1) = BAD_VALUE; shade(0, 4, 101) = BAD_VALUE; shade(4, 4, 0) = 0
                """);
        nothingChanges("setResistance", WORN + """
                setResistance(-1, 300) = NO_SUCH_MODULE; setResistance(5, 300) = NO_SUCH_MODULE
                setResistance(2, -1) = BAD_VALUE; setResistance(2, 5001) = BAD_VALUE; setResistance(2, 0) = 100
                """);
        nothingChanges("setBypassDiode", WORN + """
                setBypassDiode(-1, true) = NO_SUCH_MODULE; setBypassDiode(5, true) = NO_SUCH_MODULE
                setBypassDiode(-1, false) = NO_SUCH_MODULE; setBypassDiode(5, false) = NO_SUCH_MODULE
                """);
        nothingChanges("setBypassDiode before the module is there", """
                array(1); setBypassDiode(1, false) = NO_SUCH_MODULE; setResistance(1, 9) = NO_SUCH_MODULE
                setIrradiance(1, 9) = NO_SUCH_MODULE; shade(0, 1, 100) = NO_SUCH_MODULE
                addModule(0, 700, 300) = 1; setBypassDiode(1, true) = 0; setResistance(1, 0) = 0
                setIrradiance(1, 0) = 1000; setIrradiance(0, 0) = 1000
                """);
        nothingChanges("setDiodeDrop", WORN + """
                setDiodeDrop(-1) = BAD_VALUE; setDiodeDrop(21) = BAD_VALUE; setDiodeDrop(0) = 5
                """);
    }

    private static void refusedLayout() {
        nothingChanges("moveModule", WORN + """
                moveModule(-1, 0) = NO_SUCH_MODULE; moveModule(5, 0) = NO_SUCH_MODULE; moveModule(5, 3) = NO_SUCH_MODULE
                moveModule(4, -1) = NO_SUCH_STRING; moveModule(4, 3) = NO_SUCH_STRING
                layout(0) = 4 2 1; layout(1) = 3 0; layout(2) = empty
                """);
        nothingChanges("moveModule, FULL", ALMOST_FULL + """
                moveModule(12, 0) = FULL; moveModule(22, 0) = FULL
                layout(0) = 0 1 2 3 4 5 6 7 8 9 10 11; layout(1) = 12 13 14 15 16 17 18 19 20 21 22
                """);
        nothingChanges("swapModules", WORN + """
                swapModules(-1, 0) = NO_SUCH_MODULE; swapModules(0, -1) = NO_SUCH_MODULE
                swapModules(5, 0) = NO_SUCH_MODULE; swapModules(0, 5) = NO_SUCH_MODULE
                layout(0) = 4 2 1; layout(1) = 3 0
                """);
        nothingChanges("stringOf, moduleAt", WORN + """
                stringOf(-1) = NO_SUCH_MODULE; stringOf(5) = NO_SUCH_MODULE
                moduleAt(3, 0) = NO_SUCH_STRING; moduleAt(0, -1) = BAD_VALUE; moduleAt(0, 3) = NONE
                """);
    }

    private static void refusedCurves() {
        nothingChanges("photocurrent, moduleVoltage, modulePeakPower", WORN + """
                photocurrent(5) = NO_SUCH_MODULE; moduleVoltage(5, 0) = NO_SUCH_MODULE
                moduleVoltage(3, 1201) = BAD_VALUE; moduleVoltage(3, 801) = NONE; modulePeakPower(5) = NO_POWER
                """);
        nothingChanges("currentLimit, stringVoltage, stringPower, bypassedModules", WORN + """
                currentLimit(3) = NO_SUCH_STRING; stringVoltage(3, 0) = NO_SUCH_STRING
                stringVoltage(1, 801) = BAD_VALUE; stringPower(3, 0) = NO_POWER; stringPower(1, 801) = NO_POWER
                bypassedModules(3, 0) = NO_SUCH_STRING; bypassedModules(1, 801) = BAD_VALUE
                """);
        nothingChanges("peakCount, peakCurrent, bestCurrent, bestPower", WORN + """
                peakCount(3) = NO_SUCH_STRING; peakCurrent(3, 0) = NO_SUCH_STRING; peakCurrent(0, -1) = BAD_VALUE
                peakCurrent(2, 0) = NONE; bestCurrent(3) = NO_SUCH_STRING; bestPower(3) = NO_POWER
                """);
        nothingChanges("perturbAndObserve, scanAndClimb", WORN + """
                perturbAndObserve(3, 0, 1, 1) = NO_SUCH_STRING; perturbAndObserve(0, 801, 1, 1) = BAD_VALUE
                perturbAndObserve(0, 0, 0, 1) = BAD_VALUE; perturbAndObserve(0, 0, 1, 201) = BAD_VALUE
                scanAndClimb(3, 1) = NO_SUCH_STRING; scanAndClimb(0, 0) = BAD_VALUE; scanAndClimb(0, 501) = BAD_VALUE
                """);
        nothingChanges("arrayCurrent, bestSwapLower, bestSwapHigher", WORN + """
                arrayCurrent(-1) = BAD_VALUE; arrayCurrent(7201) = BAD_VALUE
                shade(0, 4, 100); bestSwapLower() = NONE; bestSwapHigher() = NONE
                """);
    }

    private static void constants() {
        long[] are = {PvArray.NO_SUCH_STRING, PvArray.NO_SUCH_MODULE, PvArray.BAD_VALUE, PvArray.FULL,
            PvArray.NONE, PvArray.NO_POWER};
        long[] due = {-1001, -1002, -1003, -1004, -1005, Long.MIN_VALUE};
        for (int c = 0; c < due.length; c++) {
            Runs.same("The constants", "number " + c + " of the list", are[c], due[c]);
        }
    }

    public static void main(String[] args) {
        Runs.begin();
        constants();
        orderOfBuilding();
        orderOfLayout();
        orderOfCurves();
        longErrors();
        refusedBuilding();
        refusedLayout();
        refusedCurves();
        Runs.end();
    }
}
