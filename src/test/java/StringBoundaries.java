/** The boundary cases that promises 16 to 23 name: the curves of a string. */
public final class StringBoundaries {
    private static void currentLimit() {
        Runs.run("Promise 16", "string: index of an existing string", """
                array(1, 0)
                currentLimit(-1) = NO_SUCH_STRING; currentLimit(0) = 800; currentLimit(1) = 0
                currentLimit(2) = NO_SUCH_STRING
                currentLimit(LEAST) = NO_SUCH_STRING; currentLimit(MOST) = NO_SUCH_STRING
                """);
        Runs.run("Promise 16", "string: index of an existing string (all 6)", """
                array(1, 1, 1, 1, 1, 1)
                setIrradiance(5, 500); currentLimit(4) = 800; currentLimit(5) = 400; currentLimit(6) = NO_SUCH_STRING
                """);
        Runs.run("Promise 16", "Returns the current limit of the string (the least and the most)", """
                array(0, 0); addModule(0, 1, 400); addModule(1, 1000, 400)
                currentLimit(0) = 1; setIrradiance(0, 999); currentLimit(0) = 0
                setIrradiance(1, 1200); currentLimit(1) = 1200
                setBypassDiode(1, false); currentLimit(1) = 1200
                """);
        Runs.run("Promise 16", "Returns the current limit of the string (a full one, by its last module)", """
                array(12)
                setIrradiance(11, 1200); currentLimit(0) = 960
                setIrradiance(11, 10); setBypassDiode(11, false); currentLimit(0) = 8
                """);
    }

    private static void stringVoltage() {
        Runs.run("Promise 17", "string: index of an existing string", """
                array(1, 0)
                stringVoltage(-1, 0) = NO_SUCH_STRING; stringVoltage(0, 0) = 400; stringVoltage(1, 0) = 0
                stringVoltage(2, 0) = NO_SUCH_STRING
                stringVoltage(LEAST, 0) = NO_SUCH_STRING; stringVoltage(MOST, 0) = NO_SUCH_STRING
                """);
        Runs.run("Promise 17", "current: from 0 to the current limit of the string", """
                array(2)
                setIrradiance(1, 500)
                stringVoltage(0, -1) = BAD_VALUE; stringVoltage(0, 0) = 800; stringVoltage(0, 400) = 800
                stringVoltage(0, 401) = 393; stringVoltage(0, 800) = 393; stringVoltage(0, 801) = BAD_VALUE
                stringVoltage(0, LEAST) = BAD_VALUE; stringVoltage(0, MOST) = BAD_VALUE
                setBypassDiode(1, false); stringVoltage(0, 400) = 800; stringVoltage(0, 401) = BAD_VALUE
                """);
        Runs.run("Promise 17", "current: from 0 to the current limit of the string (the most)", """
                array(0); addModule(0, 1000, 600)
                setIrradiance(0, 1200); stringVoltage(0, 1200) = 600; stringVoltage(0, 1201) = BAD_VALUE
                """);
        Runs.run("Promise 17", "current: from 0 to the current limit of the string (of 0)", """
                array(1, 0)
                setIrradiance(0, 0)
                stringVoltage(0, 0) = 400; stringVoltage(0, 1) = BAD_VALUE; stringVoltage(0, -1) = BAD_VALUE
                stringVoltage(1, 0) = 0; stringVoltage(1, 1) = BAD_VALUE; stringVoltage(1, -1) = BAD_VALUE
                """);
        Runs.run("Promise 17", "Returns the voltage of the string at the current (a full one)", """
                array(11); addModule(0, 1000, 600)
                shade(0, 10, 100); setDiodeDrop(20)
                stringVoltage(0, 0) = 5000; stringVoltage(0, 1) = 380; stringVoltage(0, 1000) = 380
                """);
    }

    private static void stringPower() {
        Runs.run("Promise 18", "string: index of an existing string; NO_POWER if string is not valid", """
                array(1, 0)
                stringPower(-1, 0) = NO_POWER; stringPower(0, 1) = 400; stringPower(1, 0) = 0
                stringPower(2, 0) = NO_POWER; stringPower(LEAST, 0) = NO_POWER; stringPower(MOST, 0) = NO_POWER
                """);
        Runs.run("Promise 18", "current: from 0 to the current limit of the string; NO_POWER if string is not valid or current is out of range", """
                array(1)
                stringPower(0, -1) = NO_POWER; stringPower(0, 0) = 0; stringPower(0, 1) = 400
                stringPower(0, 800) = 320000; stringPower(0, 801) = NO_POWER
                stringPower(0, LEAST) = NO_POWER; stringPower(0, MOST) = NO_POWER
                """);
        Runs.run("Promise 18", "current: from 0 to the current limit of the string (of 0)", """
                array(1, 0)
                setIrradiance(0, 0)
                stringPower(0, 0) = 0; stringPower(0, 1) = NO_POWER; stringPower(0, -1) = NO_POWER
                stringPower(1, 0) = 0; stringPower(1, 1) = NO_POWER; stringPower(1, -1) = NO_POWER
                """);
        Runs.run("Promise 18", "Returns the power of the string at the current (the least)", """
                array(11); addModule(0, 1000, 1)
                shade(0, 10, 100); setIrradiance(11, 1200); setDiodeDrop(20)
                stringPower(0, 1200) = -262800; stringPower(0, 1) = -219; stringPower(0, 0) = 0
                """);
    }

    private static void bypassedModules() {
        Runs.run("Promise 19", "string: index of an existing string", """
                array(1, 0)
                bypassedModules(-1, 0) = NO_SUCH_STRING; bypassedModules(0, 0) = 0; bypassedModules(1, 0) = 0
                bypassedModules(2, 0) = NO_SUCH_STRING
                bypassedModules(LEAST, 0) = NO_SUCH_STRING; bypassedModules(MOST, 0) = NO_SUCH_STRING
                """);
        Runs.run("Promise 19", "current: from 0 to the current limit of the string; BAD_VALUE if current is out of range", """
                array(2, 0)
                setIrradiance(0, 500)
                bypassedModules(0, -1) = BAD_VALUE; bypassedModules(0, 0) = 0; bypassedModules(0, 800) = 1
                bypassedModules(0, 801) = BAD_VALUE
                bypassedModules(0, LEAST) = BAD_VALUE; bypassedModules(0, MOST) = BAD_VALUE
                bypassedModules(1, -1) = BAD_VALUE; bypassedModules(1, 1) = BAD_VALUE
                """);
        Runs.run("Promise 19", "bit p is 1 if the module at position p is bypassed", """
                array(3)
                setIrradiance(0, 500); setIrradiance(2, 250)
                bypassedModules(0, 200) = 0; bypassedModules(0, 201) = 4
                bypassedModules(0, 400) = 4; bypassedModules(0, 401) = 5
                moveModule(0, 0) = 2    # the modules are 1 2 0 now
                bypassedModules(0, 201) = 2; bypassedModules(0, 401) = 6
                """);
        Runs.run("Promise 19", "bit p is 1 if the module at position p is bypassed (the last of a full string)", """
                array(12)
                setIrradiance(11, 0); bypassedModules(0, 0) = 0; bypassedModules(0, 1) = 2048
                shade(1, 11, 100); bypassedModules(0, 1) = 4094; bypassedModules(0, 800) = 4094
                """);
        Runs.run("Promise 19", "if the module at position p is bypassed (a voltage of 0 is not)", """
                array(1); addModule(0, 400, 1)
                setResistance(1, 5000); setDiodeDrop(0)
                moduleVoltage(1, 400) = 0; bypassedModules(0, 400) = 0; bypassedModules(0, 401) = 2
                """);
    }

    private static void peakCount() {
        Runs.run("Promise 20", "string: index of an existing string", """
                array(1, 0)
                peakCount(-1) = NO_SUCH_STRING; peakCount(0) = 1; peakCount(1) = 0; peakCount(2) = NO_SUCH_STRING
                peakCount(LEAST) = NO_SUCH_STRING; peakCount(MOST) = NO_SUCH_STRING
                """);
        Runs.run("Promise 20", "A current i from 1 to the current limit (0 is none)", """
                array(1); addModule(0, 2, 1)
                setIrradiance(0, 0)
                stringPower(0, 0) = 0; stringPower(0, 1) = -6; stringPower(0, 2) = -12
                peakCount(0) = 0
                """);
        Runs.run("Promise 20", "A current i from 1 to the current limit (1 is one, before the limit)", """
                array(0); addModule(0, 1, 400); addModule(0, 2, 1)
                stringPower(0, 1) = 401; stringPower(0, 2) = -12; peakCount(0) = 1; peakCurrent(0, 0) = 1
                """);
        Runs.run("Promise 20", "A current i from 1 to the current limit (1 is the limit)", """
                array(0); addModule(0, 1, 400)
                peakCount(0) = 1; peakCurrent(0, 0) = 1; setIrradiance(0, 0); peakCount(0) = 0
                """);
        Runs.run("Promise 20", "is a local peak if the power at i is greater than the power at i - 1 (not alike)", """
                array(0); addModule(0, 2, 2)
                setResistance(0, 5000)
                stringPower(0, 1) = 2; stringPower(0, 2) = 2; peakCount(0) = 0    # not even the limit
                """);
        Runs.run("Promise 20", "and i is the current limit", """
                array(0); addModule(0, 3, 2)
                setResistance(0, 5000)
                stringPower(0, 2) = 2; stringPower(0, 3) = 3; peakCount(0) = 1; peakCurrent(0, 0) = 3
                """);
        Runs.run("Promise 20", "and i is the current limit (though the power would rise beyond it)", """
                array(1); addModule(0, 100, 1)
                setBypassDiode(1, false); setDiodeDrop(0)
                currentLimit(0) = 100; peakCount(0) = 1; peakCurrent(0, 0) = 100
                """);
        Runs.run("Promise 20", "or the power at i is greater than the power at i + 1 (not alike)", """
                array(0); addModule(0, 1000, 100); addModule(0, 1000, 100)
                setResistance(0, 5000); setResistance(1, 4999)    # a voltage of 201 - i
                stringPower(0, 99) = 10098; stringPower(0, 100) = 10100
                stringPower(0, 101) = 10100; stringPower(0, 102) = 10098
                peakCount(0) = 0; peakCurrent(0, 0) = NONE
                """);
        Runs.run("Promise 20", "or the power at i is greater than the power at i + 1 (by 1)", """
                array(0); addModule(0, 4, 2)
                setResistance(0, 5000)
                stringPower(0, 2) = 2; stringPower(0, 3) = 3; stringPower(0, 4) = 0
                peakCount(0) = 1; peakCurrent(0, 0) = 3
                """);
        Runs.run("Promise 20", "Returns the number of local peaks (one for each of 12 modules)", """
                array(12)
                setIrradiance(0, 100); setIrradiance(1, 200); setIrradiance(2, 300); setIrradiance(3, 400)
                setIrradiance(4, 500); setIrradiance(5, 600); setIrradiance(6, 700); setIrradiance(7, 800)
                setIrradiance(8, 900); setIrradiance(9, 1000); setIrradiance(10, 1100); setIrradiance(11, 1200)
                peakCount(0) = 12; peakCurrent(0, 11) = 960; peakCurrent(0, 12) = NONE
                """);
    }

    private static void peakCurrent() {
        Runs.run("Promise 21", "string: index of an existing string", """
                array(1, 0)
                peakCurrent(-1, 0) = NO_SUCH_STRING; peakCurrent(0, 0) = 800; peakCurrent(1, 0) = NONE
                peakCurrent(2, 0) = NO_SUCH_STRING
                peakCurrent(LEAST, 0) = NO_SUCH_STRING; peakCurrent(MOST, 0) = NO_SUCH_STRING
                """);
        Runs.run("Promise 21", "index of a local peak in order of increasing current, starting at 0", """
                array(3)
                setIrradiance(0, 750); setIrradiance(1, 250)
                peakCurrent(0, 0) = 200; peakCurrent(0, 1) = 600; peakCurrent(0, 2) = 800
                """);
        Runs.run("Promise 21", "BAD_VALUE if k is negative", """
                array(1, 0)
                peakCurrent(0, -1) = BAD_VALUE; peakCurrent(0, 0) = 800; peakCurrent(0, LEAST) = BAD_VALUE
                peakCurrent(1, -1) = BAD_VALUE
                """);
        Runs.run("Promise 21", "NONE if there are k or fewer local peaks", """
                array(2, 0)
                setIrradiance(0, 500)
                peakCount(0) = 2; peakCurrent(0, 1) = 800; peakCurrent(0, 2) = NONE; peakCurrent(0, 3) = NONE
                peakCurrent(0, MOST) = NONE
                peakCount(1) = 0; peakCurrent(1, 0) = NONE; peakCurrent(1, 1) = NONE; peakCurrent(1, MOST) = NONE
                """);
        Runs.run("Promise 21", "NONE if there are k or fewer local peaks (0 is no peak)", """
                array(1); addModule(0, 2, 1)
                setIrradiance(0, 0)
                stringPower(0, 1) = -6; peakCount(0) = 0; peakCurrent(0, 0) = NONE
                setIrradiance(1, 0); currentLimit(0) = 0; peakCount(0) = 0; peakCurrent(0, 0) = NONE
                """);
        Runs.run("Promise 21", "NONE if there are k or fewer local peaks (neighbours alike)", """
                array(0); addModule(0, 2, 2)
                setResistance(0, 5000)
                stringPower(0, 1) = 2; stringPower(0, 2) = 2; peakCurrent(0, 0) = NONE
                """);
    }

    private static void bestCurrent() {
        Runs.run("Promise 22", "string: index of an existing string", """
                array(1, 0)
                bestCurrent(-1) = NO_SUCH_STRING; bestCurrent(0) = 800; bestCurrent(1) = 0
                bestCurrent(2) = NO_SUCH_STRING
                bestCurrent(LEAST) = NO_SUCH_STRING; bestCurrent(MOST) = NO_SUCH_STRING
                """);
        Runs.run("Promise 22", "Returns the best current of the string (alike)", """
                array(2)
                setIrradiance(0, 500); setDiodeDrop(0); bestCurrent(0) = 400     # as at 800
                setIrradiance(0, 499); bestCurrent(0) = 800                      # 399 times 800 is less
                setIrradiance(0, 502); bestCurrent(0) = 401                      # 401 times 800 is more
                """);
        Runs.run("Promise 22", "Returns the best current of the string (neighbours alike)", """
                array(0); addModule(0, 2, 2)
                setResistance(0, 5000); stringPower(0, 1) = 2; stringPower(0, 2) = 2; bestCurrent(0) = 1
                """);
        Runs.run("Promise 22", "Returns the best current of the string (the least and the most)", """
                array(0, 0); addModule(0, 1, 1); addModule(1, 1000, 1)
                bestCurrent(0) = 1; setIrradiance(0, 0); bestCurrent(0) = 0
                bestCurrent(1) = 1000; setIrradiance(1, 1200); bestCurrent(1) = 1200
                """);
    }

    private static void bestPower() {
        Runs.run("Promise 23", "string: index of an existing string; NO_POWER if string is not valid", """
                array(1, 0)
                bestPower(-1) = NO_POWER; bestPower(0) = 320000; bestPower(1) = 0; bestPower(2) = NO_POWER
                bestPower(LEAST) = NO_POWER; bestPower(MOST) = NO_POWER
                """);
        Runs.run("Promise 23", "Returns the best power of the string (the least: never below 0)", """
                array(11); addModule(0, 1000, 1)
                shade(0, 10, 100); stringPower(0, 1) = -76; bestPower(0) = 0
                shade(11, 11, 100); bestPower(0) = 0
                """);
        Runs.run("Promise 23", "Returns the best power of the string (1)", """
                array(0); addModule(0, 1, 1)
                bestPower(0) = 1; setIrradiance(0, 999); bestPower(0) = 0
                """);
        StringBuilder calls = new StringBuilder("addString();");
        for (int m = 0; m < 12; m++) {
            calls.append("addModule(0, 1000, 600); setIrradiance(").append(m).append(", 1200);");
        }
        Runs.run("Promise 23", "Returns the best power of the string (the most)",
                calls + "bestPower(0) = 8640000; bestCurrent(0) = 1200; stringPower(0, 1200) = 8640000");
    }

    public static void main(String[] args) {
        Runs.begin();
        currentLimit();
        stringVoltage();
        stringPower();
        bypassedModules();
        peakCount();
        peakCurrent();
        bestCurrent();
        bestPower();
        Runs.end();
    }
}
