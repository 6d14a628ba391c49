/** The boundary cases that promises 13 to 15 name: a module by itself. */
public final class ModuleBoundaries {
    private static void photocurrent() {
        Runs.run("Promise 13", "module: index of an existing module", """
                array(1); addModule(0, 700, 400)
                photocurrent(-1) = NO_SUCH_MODULE; photocurrent(0) = 800; photocurrent(1) = 700
                photocurrent(2) = NO_SUCH_MODULE
                photocurrent(LEAST) = NO_SUCH_MODULE; photocurrent(MOST) = NO_SUCH_MODULE
                """);
        Runs.run("Promise 13", "module: index of an existing module (all 24)", """
                array(12, 11); addModule(1, 700, 400)
                photocurrent(22) = 800; photocurrent(23) = 700; photocurrent(24) = NO_SUCH_MODULE
                """);
        Runs.run("Promise 13", "Returns the photocurrent of the module", """
                addString(); addModule(0, 1, 400); addModule(0, 1000, 400)
                setIrradiance(0, 0); photocurrent(0) = 0; setIrradiance(0, 999); photocurrent(0) = 0
                setIrradiance(0, 1000); photocurrent(0) = 1; setIrradiance(0, 1200); photocurrent(0) = 1
                setIrradiance(1, 0); photocurrent(1) = 0; setIrradiance(1, 1200); photocurrent(1) = 1200
                shade(1, 1, 50); photocurrent(1) = 600
                setBypassDiode(1, false); setResistance(1, 5000); photocurrent(1) = 600
                """);
    }

    private static void moduleVoltage() {
        Runs.run("Promise 14", "module: index of an existing module", """
                array(1); addModule(0, 700, 300)
                moduleVoltage(-1, 0) = NO_SUCH_MODULE; moduleVoltage(0, 0) = 400; moduleVoltage(1, 0) = 300
                moduleVoltage(2, 0) = NO_SUCH_MODULE
                moduleVoltage(LEAST, 0) = NO_SUCH_MODULE; moduleVoltage(MOST, 0) = NO_SUCH_MODULE
                """);
        Runs.run("Promise 14", "current: from 0 to 1200", """
                array(0); addModule(0, 1000, 400)
                setIrradiance(0, 1200)
                moduleVoltage(0, -1) = BAD_VALUE; moduleVoltage(0, 0) = 400
                moduleVoltage(0, 1200) = 400; moduleVoltage(0, 1201) = BAD_VALUE
                moduleVoltage(0, LEAST) = BAD_VALUE; moduleVoltage(0, MOST) = BAD_VALUE
                """);
        Runs.run("Promise 14", "current: from 0 to 1200 (whatever the string can carry)", """
                array(2)
                setIrradiance(0, 0); setBypassDiode(0, false)
                currentLimit(0) = 0; moduleVoltage(1, 800) = 400; moduleVoltage(1, 1200) = -7
                """);
        Runs.run("Promise 14", "the voltage, which is minus the diode drop if the module is bypassed", """
                array(1)
                moduleVoltage(0, 800) = 400; moduleVoltage(0, 801) = -7; moduleVoltage(0, 1200) = -7
                setDiodeDrop(0); moduleVoltage(0, 801) = 0; setDiodeDrop(20); moduleVoltage(0, 801) = -20
                setResistance(0, 5000); moduleVoltage(0, 800) = 0; moduleVoltage(0, 801) = -20
                """);
        Runs.run("Promise 14", "NONE if current is above the photocurrent and the module has no bypass diode", """
                array(1)
                setBypassDiode(0, false)
                moduleVoltage(0, 800) = 400; moduleVoltage(0, 801) = NONE; moduleVoltage(0, 1200) = NONE
                setIrradiance(0, 0); moduleVoltage(0, 0) = 400; moduleVoltage(0, 1) = NONE
                setDiodeDrop(0); moduleVoltage(0, 1) = NONE
                setBypassDiode(0, true); moduleVoltage(0, 1) = 0
                """);
    }

    private static void modulePeakPower() {
        Runs.run("Promise 15", "module: index of an existing module; NO_POWER if module is not valid", """
                array(1); addModule(0, 700, 400)
                modulePeakPower(-1) = NO_POWER; modulePeakPower(0) = 320000; modulePeakPower(1) = 280000
                modulePeakPower(2) = NO_POWER; modulePeakPower(LEAST) = NO_POWER; modulePeakPower(MOST) = NO_POWER
                """);
        Runs.run("Promise 15", "over the currents from 0 to its photocurrent (the photocurrent itself)", """
                addString(); addModule(0, 1, 1); addModule(0, 1000, 600)
                modulePeakPower(0) = 1; modulePeakPower(1) = 600000
                setIrradiance(1, 1200); modulePeakPower(1) = 720000
                setIrradiance(1, 1); modulePeakPower(1) = 600
                """);
        Runs.run("Promise 15", "over the currents from 0 to its photocurrent (of 0)", """
                array(1)
                setIrradiance(0, 1); photocurrent(0) = 0; modulePeakPower(0) = 0
                setIrradiance(0, 0); modulePeakPower(0) = 0
                """);
        Runs.run("Promise 15", "the maximum of current times voltage (before the photocurrent)", """
                array(1)
                setResistance(0, 5000)
                modulePeakPower(0) = 80200    # 401 times 200
                setIrradiance(0, 502); photocurrent(0) = 401; modulePeakPower(0) = 80200
                setIrradiance(0, 501); photocurrent(0) = 400; modulePeakPower(0) = 80199    # 399 times 201
                """);
        Runs.run("Promise 15", "the maximum of current times voltage (a voltage of 0 from current 2 on)", """
                array(0); addModule(0, 1000, 1)
                setResistance(0, 5000)
                moduleVoltage(0, 1) = 1; moduleVoltage(0, 2) = 0; modulePeakPower(0) = 1
                """);
        Runs.run("Promise 15", "of a module by itself", """
                array(2)
                setIrradiance(0, 0); setBypassDiode(0, false)
                bestPower(0) = 0; modulePeakPower(0) = 0; modulePeakPower(1) = 320000
                setBypassDiode(1, false); setDiodeDrop(20); modulePeakPower(1) = 320000
                """);
    }

    public static void main(String[] args) {
        Runs.begin();
        photocurrent();
        moduleVoltage();
        modulePeakPower();
        Runs.end();
    }
}
