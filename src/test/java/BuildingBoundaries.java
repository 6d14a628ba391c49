/** The boundary cases that promises 1 to 8 name: a new object, and how it is built. */
public final class BuildingBoundaries {
    private static void newObject() {
        Runs.run("Promise 1", "Creates an array without strings", """
                currentLimit(0) = NO_SUCH_STRING; moduleAt(0, 0) = NO_SUCH_STRING; bestPower(0) = NO_POWER
                addModule(0, 800, 400) = NO_SUCH_STRING
                arrayCurrent(0) = 0; bestArrayVoltage() = 0; totalBestPower() = 0; addString() = 0
                """);
        Runs.run("Promise 1", "Creates an array without strings and modules", """
                stringOf(0) = NO_SUCH_MODULE; photocurrent(0) = NO_SUCH_MODULE; modulePeakPower(0) = NO_POWER
                setIrradiance(0, 1000) = NO_SUCH_MODULE; setBypassDiode(0, true) = NO_SUCH_MODULE
                shade(0, 0, 0) = NO_SUCH_MODULE; moveModule(0, 0) = NO_SUCH_MODULE; swapModules(0, 0) = NO_SUCH_MODULE
                mismatchLoss() = 0; bestSwapGain() = 0; bestSwapLower() = NONE; bestSwapHigher() = NONE
                regroup() = 0
                """);
        Runs.run("Promise 1", "The diode drop is 7", "setDiodeDrop(7) = 7; setDiodeDrop(8) = 7");
        Runs.run("Promise 1", "The diode drop is 7 (of a module that is bypassed)",
                "array(1); moduleVoltage(0, 801) = -7");
    }

    private static void addString() {
        Runs.run("Promise 2", "Adds an empty string", """
                addString() = 0; layout(0) = empty; currentLimit(0) = 0; stringVoltage(0, 0) = 0
                addModule(0, 800, 400) = 0; addString() = 1; layout(1) = empty; layout(0) = 0
                """);
        Runs.run("Promise 2", "FULL if there are already 6 strings", """
                addString() = 0; addString() = 1; addString() = 2; addString() = 3; addString() = 4
                addString() = 5; addString() = FULL; addString() = FULL
                currentLimit(5) = 0; currentLimit(6) = NO_SUCH_STRING; addModule(5, 800, 400) = 0
                """);
    }

    private static void addModule() {
        Runs.run("Promise 3", "Adds a module at the end of a string", """
                array(0, 0)
                addModule(0, 800, 400) = 0; layout(0) = 0        # the string was empty
                addModule(0, 800, 400) = 1; layout(0) = 0 1
                addModule(1, 800, 400) = 2; addModule(0, 800, 400) = 3
                layout(0) = 0 1 3; layout(1) = 2
                """);
        Runs.run("Promise 3", "The new module has irradiance 1000, resistance 0 and a bypass diode", """
                array(1)
                setIrradiance(0, 5); setResistance(0, 5); setBypassDiode(0, false)
                addModule(0, 800, 400) = 1
                setIrradiance(1, 5) = 1000; setResistance(1, 5) = 0; setBypassDiode(1, true) = 0
                """);
        Runs.run("Promise 3", "string: index of an existing string", """
                array(1, 1)
                addModule(-1, 800, 400) = NO_SUCH_STRING; addModule(0, 800, 400) = 2
                addModule(1, 800, 400) = 3; addModule(2, 800, 400) = NO_SUCH_STRING
                addModule(LEAST, 800, 400) = NO_SUCH_STRING; addModule(MOST, 800, 400) = NO_SUCH_STRING
                """);
        Runs.run("Promise 3", "ratedCurrent: photocurrent at irradiance 1000, from 1 to 1000", """
                array(0)
                addModule(0, 0, 400) = BAD_VALUE; addModule(0, 1, 400) = 0; photocurrent(0) = 1
                addModule(0, 1000, 400) = 1; addModule(0, 1001, 400) = BAD_VALUE; photocurrent(1) = 1000
                addModule(0, -1, 400) = BAD_VALUE
                addModule(0, LEAST, 400) = BAD_VALUE; addModule(0, MOST, 400) = BAD_VALUE
                """);
        Runs.run("Promise 3", "openVoltage: open-circuit voltage, from 1 to 600", """
                array(0)
                addModule(0, 800, 0) = BAD_VALUE; addModule(0, 800, 1) = 0; moduleVoltage(0, 0) = 1
                addModule(0, 800, 600) = 1; addModule(0, 800, 601) = BAD_VALUE; moduleVoltage(1, 0) = 600
                addModule(0, 800, -1) = BAD_VALUE
                addModule(0, 800, LEAST) = BAD_VALUE; addModule(0, 800, MOST) = BAD_VALUE
                """);
        Runs.run("Promise 3", "BAD_VALUE if ratedCurrent or openVoltage is out of range", """
                array(0)
                addModule(0, 1, 1) = 0; addModule(0, 1000, 600) = 1
                addModule(0, 0, 600) = BAD_VALUE; addModule(0, 1000, 0) = BAD_VALUE; addModule(0, 0, 0) = BAD_VALUE
                addModule(0, 1001, 1) = BAD_VALUE; addModule(0, 1, 601) = BAD_VALUE
                addModule(0, 1001, 601) = BAD_VALUE; addModule(0, 1001, 0) = BAD_VALUE
                stringOf(2) = NO_SUCH_MODULE
                """);
        addModuleFull();
    }

    private static void addModuleFull() {
        Runs.run("Promise 3", "FULL if there are already 24 modules", """
                array(11, 11, 1, 0)
                addModule(2, 800, 400) = 23; addModule(2, 800, 400) = FULL; addModule(3, 800, 400) = FULL
                addModule(0, 800, 400) = FULL    # none of the strings is full
                stringOf(23) = 2; stringOf(24) = NO_SUCH_MODULE
                layout(3) = empty; layout(2) = 22 23
                """);
        Runs.run("Promise 3", "or the string already has 12 modules", """
                array(11, 0)
                addModule(0, 800, 400) = 11; addModule(0, 800, 400) = FULL
                addModule(1, 800, 400) = 12; layout(0) = 0 1 2 3 4 5 6 7 8 9 10 11; layout(1) = 12
                """);
        Runs.run("Promise 3", "or the string already has 12 modules (one has left)", """
                array(12, 0)
                addModule(0, 800, 400) = FULL; moveModule(3, 1) = 0; addModule(0, 800, 400) = 12
                addModule(0, 800, 400) = FULL; layout(0) = 0 1 2 4 5 6 7 8 9 10 11 12
                """);
        Runs.run("Promise 3", "FULL if there are already 24 modules, or the string already has 12 modules (both)", """
                array(12, 12, 0)
                addModule(0, 800, 400) = FULL; addModule(1, 800, 400) = FULL; addModule(2, 800, 400) = FULL
                moveModule(23, 2) = 0; addModule(1, 800, 400) = FULL
                """);
    }

    private static void setIrradiance() {
        Runs.run("Promise 4", "module: index of an existing module", """
                array(1, 1)
                setIrradiance(-1, 500) = NO_SUCH_MODULE; setIrradiance(0, 500) = 1000
                setIrradiance(1, 600) = 1000; setIrradiance(2, 500) = NO_SUCH_MODULE
                setIrradiance(LEAST, 500) = NO_SUCH_MODULE; setIrradiance(MOST, 500) = NO_SUCH_MODULE
                photocurrent(0) = 400; photocurrent(1) = 480
                """);
        Runs.run("Promise 4", "irradiance: from 0 to 1200", """
                array(1)
                setIrradiance(0, -1) = BAD_VALUE; setIrradiance(0, 0) = 1000
                setIrradiance(0, 1200) = 0; setIrradiance(0, 1201) = BAD_VALUE
                setIrradiance(0, LEAST) = BAD_VALUE; setIrradiance(0, MOST) = BAD_VALUE
                photocurrent(0) = 960
                """);
        Runs.run("Promise 4", "Returns the previous irradiance", """
                array(1)
                setIrradiance(0, 1000) = 1000 unchanged; setIrradiance(0, 1) = 1000; setIrradiance(0, 0) = 1
                setIrradiance(0, 0) = 0 unchanged; setIrradiance(0, 1199) = 0; setIrradiance(0, 1) = 1199
                shade(0, 0, 100); setIrradiance(0, 5) = 0
                """);
    }

    private static void shade() {
        Runs.run("Promise 5", "Shades the modules with the indices first to last (both included)", """
                array(2, 3)
                shade(1, 3, 50) = 3
                setIrradiance(0, 1) = 1000; setIrradiance(1, 1) = 500; setIrradiance(2, 1) = 500
                setIrradiance(3, 1) = 500; setIrradiance(4, 1) = 1000
                """);
        Runs.run("Promise 5", "first to last (both included) (one module)", """
                array(3)
                shade(1, 1, 50) = 1
                setIrradiance(0, 1) = 1000; setIrradiance(1, 1) = 500; setIrradiance(2, 1) = 1000
                """);
        Runs.run("Promise 5", "first to last (both included) (all 24 modules)", """
                array(12, 12)
                shade(0, 23, 50) = 24; setIrradiance(0, 1) = 500; setIrradiance(23, 1) = 500
                """);
        Runs.run("Promise 5", "the indices first to last (not the places)", """
                array(2, 2)
                swapModules(1, 3); shade(1, 1, 50) = 1; setIrradiance(1, 1) = 500; setIrradiance(3, 1) = 1000
                """);
        Runs.run("Promise 5", "multiplied by (100 - percent) and divided by 100", """
                array(1)
                shade(0, 0, 1) = 1; setIrradiance(0, 999) = 990
                shade(0, 0, 99) = 1; setIrradiance(0, 1200) = 9    # 9.99
                shade(0, 0, 100) = 1; setIrradiance(0, 1200) = 0
                shade(0, 0, 0) = 0 unchanged; setIrradiance(0, 1) = 1200
                """);
        Runs.run("Promise 5", "first: index of an existing module", """
                array(1, 1)
                shade(-1, 1, 50) = NO_SUCH_MODULE; shade(0, 1, 50) = 2; shade(1, 1, 50) = 1
                shade(2, 1, 50) = NO_SUCH_MODULE; shade(2, 2, 50) = NO_SUCH_MODULE
                shade(LEAST, 1, 50) = NO_SUCH_MODULE; shade(MOST, 1, 50) = NO_SUCH_MODULE
                """);
        Runs.run("Promise 5", "last: index of an existing module", """
                array(1, 1)
                shade(0, -1, 50) = NO_SUCH_MODULE; shade(0, 0, 50) = 1; shade(0, 1, 50) = 2
                shade(0, 2, 50) = NO_SUCH_MODULE; shade(-1, -1, 50) = NO_SUCH_MODULE
                shade(0, LEAST, 50) = NO_SUCH_MODULE; shade(0, MOST, 50) = NO_SUCH_MODULE
                """);
        Runs.run("Promise 5", "percent: from 0 to 100", """
                array(1)
                shade(0, 0, -1) = BAD_VALUE; shade(0, 0, 0) = 0; shade(0, 0, 100) = 1; shade(0, 0, 101) = BAD_VALUE
                shade(0, 0, LEAST) = BAD_VALUE; shade(0, 0, MOST) = BAD_VALUE
                """);
        Runs.run("Promise 5", "BAD_VALUE if first is greater than last", """
                array(2, 1)
                shade(1, 0, 50) = BAD_VALUE; shade(2, 0, 50) = BAD_VALUE; shade(2, 1, 0) = BAD_VALUE
                shade(1, 1, 50) = 1; shade(1, 0, 101) = BAD_VALUE
                """);
        Runs.run("Promise 5", "Returns the number of modules whose irradiance changed", """
                array(4)
                setIrradiance(0, 0); setIrradiance(1, 1); setIrradiance(3, 1200)
                shade(0, 3, 0) = 0 unchanged; shade(0, 0, 50) = 0 unchanged
                shade(0, 3, 1) = 3       # 0 stays 0, 1 becomes 0
                shade(0, 3, 1) = 2; shade(0, 3, 100) = 2; shade(0, 3, 100) = 0 unchanged
                """);
    }

    private static void setResistance() {
        Runs.run("Promise 6", "module: index of an existing module", """
                array(1, 1)
                setResistance(-1, 50) = NO_SUCH_MODULE; setResistance(0, 50) = 0
                setResistance(1, 60) = 0; setResistance(2, 50) = NO_SUCH_MODULE
                setResistance(LEAST, 50) = NO_SUCH_MODULE; setResistance(MOST, 50) = NO_SUCH_MODULE
                setResistance(0, 0) = 50; setResistance(1, 0) = 60
                """);
        Runs.run("Promise 6", "milliohms: from 0 to 5000", """
                array(1)
                setResistance(0, -1) = BAD_VALUE; setResistance(0, 0) = 0
                setResistance(0, 5000) = 0; setResistance(0, 5001) = BAD_VALUE
                setResistance(0, LEAST) = BAD_VALUE; setResistance(0, MOST) = BAD_VALUE
                moduleVoltage(0, 800) = 0; moduleVoltage(0, 799) = 1
                """);
        Runs.run("Promise 6", "Returns the previous resistance", """
                array(1)
                setResistance(0, 0) = 0 unchanged; setResistance(0, 4999) = 0; setResistance(0, 1) = 4999
                setResistance(0, 1) = 1 unchanged; setResistance(0, 0) = 1; setResistance(0, 7) = 0
                """);
    }

    private static void setBypassDiode() {
        Runs.run("Promise 7", "module: index of an existing module", """
                array(1, 1)
                setBypassDiode(-1, false) = NO_SUCH_MODULE; setBypassDiode(0, false) = 1
                setBypassDiode(1, false) = 1; setBypassDiode(2, false) = NO_SUCH_MODULE
                setBypassDiode(2, true) = NO_SUCH_MODULE; setBypassDiode(-1, true) = NO_SUCH_MODULE
                setBypassDiode(LEAST, false) = NO_SUCH_MODULE; setBypassDiode(MOST, false) = NO_SUCH_MODULE
                """);
        Runs.run("Promise 7", "true if the module has a bypass diode from now on", """
                array(2)
                setBypassDiode(0, false); moduleVoltage(0, 801) = NONE; moduleVoltage(1, 801) = -7
                setBypassDiode(0, true); moduleVoltage(0, 801) = -7
                """);
        Runs.run("Promise 7", "Returns 1 if this changed the module, 0 if it already was so", """
                array(1)
                setBypassDiode(0, true) = 0 unchanged; setBypassDiode(0, false) = 1
                setBypassDiode(0, false) = 0 unchanged; setBypassDiode(0, true) = 1
                """);
    }

    private static void setDiodeDrop() {
        Runs.run("Promise 8", "drop: from 0 to 20", """
                array(1)
                setDiodeDrop(-1) = BAD_VALUE; setDiodeDrop(0) = 7; moduleVoltage(0, 801) = 0
                setDiodeDrop(20) = 0; setDiodeDrop(21) = BAD_VALUE; moduleVoltage(0, 801) = -20
                setDiodeDrop(LEAST) = BAD_VALUE; setDiodeDrop(MOST) = BAD_VALUE; setDiodeDrop(7) = 20
                """);
        Runs.run("Promise 8", "Returns the previous diode drop (without strings and modules)", """
                setDiodeDrop(7) = 7 unchanged; setDiodeDrop(1) = 7; setDiodeDrop(19) = 1
                setDiodeDrop(19) = 19 unchanged; setDiodeDrop(0) = 19; setDiodeDrop(0) = 0 unchanged
                """);
        Runs.run("Promise 8", "Sets the diode drop of all bypass diodes (12 in a row)", """
                array(12)
                shade(0, 10, 100); setDiodeDrop(20); stringVoltage(0, 0) = 4800; stringVoltage(0, 1) = 180
                setDiodeDrop(0); stringVoltage(0, 1) = 400
                """);
    }

    public static void main(String[] args) {
        Runs.begin();
        newObject();
        addString();
        addModule();
        setIrradiance();
        shade();
        setResistance();
        setBypassDiode();
        setDiodeDrop();
        Runs.end();
    }
}
