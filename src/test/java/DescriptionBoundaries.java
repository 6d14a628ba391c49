/** The boundary cases that the document's Description names: Units, Modules, Strings and Array. */
public final class DescriptionBoundaries {
    private static void lastCall() {
        StringBuilder calls = new StringBuilder("addString() = 0; addModule(0, 800, 400) = 0;");
        int previous = 1000;
        for (int n = 3; n < 512; n++) {
            calls.append("setIrradiance(0, ").append(n).append(") = ").append(previous).append(";");
            previous = n;
        }
        Runs.run("What it is", "An object is used for at most 512 calls after it has been made",
                calls + "setIrradiance(0, 0) = 511");
    }

    private static void rounding() {
        Runs.run("Units", "Every division in this document rounds toward zero (photocurrent)", """
                addString(); addModule(0, 999, 400)
                setIrradiance(0, 1); photocurrent(0) = 0        # 0.999
                setIrradiance(0, 2); photocurrent(0) = 1        # 1.998
                setIrradiance(0, 1001); photocurrent(0) = 999   # 999.999
                setIrradiance(0, 1200); photocurrent(0) = 1198  # 1198.8
                """);
        Runs.run("Units", "Every division in this document rounds toward zero (voltage)", """
                array(1)
                setResistance(0, 4999); moduleVoltage(0, 2) = 400  # a loss of 0.9998
                setResistance(0, 3333); moduleVoltage(0, 3) = 400  # of 0.9999
                setResistance(0, 5000); moduleVoltage(0, 2) = 399  # of 1
                moduleVoltage(0, 3) = 399                          # of 1.5
                moduleVoltage(0, 4) = 398                          # of 2
                """);
        Runs.run("Units", "Every division in this document rounds toward zero (irradiance)", """
                array(2)
                setIrradiance(0, 1); setIrradiance(1, 199)
                shade(0, 0, 1) = 1; setIrradiance(0, 0) = 0     # 0.99
                shade(1, 1, 50) = 1; setIrradiance(1, 0) = 99   # 99.5
                """);
    }

    private static void moduleIndices() {
        Runs.run("Modules", "indices are given in order of creation, starting at 0", """
                array(0, 0)
                stringOf(0) = NO_SUCH_MODULE
                addModule(1, 100, 10) = 0; addModule(0, 0, 10) = BAD_VALUE; addModule(0, 200, 20) = 1
                addModule(2, 300, 30) = NO_SUCH_STRING; addModule(1, 300, 30) = 2
                stringOf(2) = 1; stringOf(3) = NO_SUCH_MODULE
                """);
        Runs.run("Modules", "and never change", """
                array(0, 0)
                addModule(0, 100, 10) = 0; addModule(0, 200, 20) = 1; addModule(1, 300, 30) = 2
                moveModule(0, 1) = 1; swapModules(0, 1) = 1; regroup() = 2
                photocurrent(0) = 100; photocurrent(1) = 200; photocurrent(2) = 300
                moduleVoltage(0, 0) = 10; moduleVoltage(1, 0) = 20; moduleVoltage(2, 0) = 30
                addModule(0, 400, 40) = 3
                """);
    }

    private static void photocurrents() {
        Runs.run("Modules", "its irradiance times its rated current, divided by 1000", """
                addString(); addModule(0, 1, 1); addModule(0, 1000, 600)
                photocurrent(0) = 1; setIrradiance(0, 999); photocurrent(0) = 0
                setIrradiance(0, 1200); photocurrent(0) = 1; setIrradiance(0, 0); photocurrent(0) = 0
                photocurrent(1) = 1000; setIrradiance(1, 1200); photocurrent(1) = 1200
                setIrradiance(1, 1); photocurrent(1) = 1; setIrradiance(1, 0); photocurrent(1) = 0
                """);
    }

    private static void moduleVoltages() {
        Runs.run("Modules", "At a current i of 0 or more that does not exceed its photocurrent", """
                array(1)
                setResistance(0, 1000); setIrradiance(0, 500)
                moduleVoltage(0, -1) = BAD_VALUE
                moduleVoltage(0, 0) = 400; moduleVoltage(0, 399) = 361; moduleVoltage(0, 400) = 360
                moduleVoltage(0, 401) = -7
                """);
        Runs.run("Modules", "At a current i of 0 or more that does not exceed its photocurrent (of 0)", """
                array(1)
                setIrradiance(0, 0)
                moduleVoltage(0, 0) = 400; moduleVoltage(0, 1) = -7
                stringVoltage(0, 0) = 400; bypassedModules(0, 0) = 0
                """);
        Runs.run("Modules", "but at least 0", """
                addString(); addModule(0, 1000, 50)
                setResistance(0, 5000)
                moduleVoltage(0, 99) = 1    # a loss of 49.5
                moduleVoltage(0, 100) = 0   # of 50
                moduleVoltage(0, 101) = 0   # of 50.5
                moduleVoltage(0, 102) = 0   # of 51
                moduleVoltage(0, 1000) = 0
                stringVoltage(0, 1000) = 0; bypassedModules(0, 1000) = 0
                """);
        Runs.run("Modules", "but at least 0 (a module without voltage takes none from the others)", """
                array(1); addModule(0, 800, 1)
                setResistance(1, 5000)
                stringVoltage(0, 2) = 400; stringVoltage(0, 800) = 400
                """);
        Runs.run("Modules", "At a current above its photocurrent, a module with a bypass diode is bypassed", """
                array(2)
                setIrradiance(1, 500)
                moduleVoltage(1, 400) = 400; moduleVoltage(1, 401) = -7; moduleVoltage(1, 1200) = -7
                bypassedModules(0, 400) = 0; bypassedModules(0, 401) = 2
                """);
        Runs.run("Modules", "The diode drop is one setting for all modules", """
                array(1, 1)
                setDiodeDrop(20) = 7
                addModule(1, 800, 400) = 2
                moduleVoltage(0, 801) = -20; moduleVoltage(1, 801) = -20; moduleVoltage(2, 801) = -20
                setDiodeDrop(0) = 20
                moduleVoltage(0, 801) = 0; moduleVoltage(1, 801) = 0; moduleVoltage(2, 801) = 0
                """);
    }

    private static void stringIndices() {
        Runs.run("Strings", "indices are given in order of creation, starting at 0", """
                currentLimit(0) = NO_SUCH_STRING
                addString() = 0; currentLimit(0) = 0; currentLimit(1) = NO_SUCH_STRING
                addString() = 1; addString() = 2; addString() = 3; addString() = 4
                currentLimit(5) = NO_SUCH_STRING; addString() = 5; currentLimit(5) = 0
                """);
        Runs.run("Strings", "Each module belongs to exactly one string", """
                array(2, 2)
                moveModule(0, 1) = 2; layout(0) = 1; layout(1) = 2 3 0
                moveModule(0, 0) = 1; layout(0) = 1 0; layout(1) = 2 3
                swapModules(1, 3) = 1; layout(0) = 3 0; layout(1) = 2 1
                """);
        Runs.run("Strings", "positions start at 0 and have no gaps", """
                array(5, 0)
                moduleAt(0, -1) = BAD_VALUE; moduleAt(0, 0) = 0
                moveModule(0, 1) = 0; layout(0) = 1 2 3 4    # the first
                moveModule(2, 1) = 1; layout(0) = 1 3 4      # one between
                moveModule(4, 1) = 2; layout(0) = 1 3        # the last
                moveModule(1, 1) = 3; moveModule(3, 1) = 4; layout(0) = empty
                layout(1) = 0 2 4 1 3
                """);
    }

    private static void limits() {
        Runs.run("Strings", "The current limit of a string is the greatest photocurrent of its modules", """
                array(3)
                setIrradiance(0, 100); setIrradiance(1, 500); currentLimit(0) = 800      # the last
                setIrradiance(1, 1200); currentLimit(0) = 960                            # one between
                setIrradiance(0, 1200); setIrradiance(1, 0); currentLimit(0) = 960       # the first
                shade(0, 2, 100); currentLimit(0) = 0
                """);
        Runs.run("Strings", "but not more than the photocurrent of any of its modules that has no bypass diode", """
                array(3)
                setIrradiance(0, 500); setIrradiance(1, 600)
                setBypassDiode(2, false); currentLimit(0) = 800   # the greatest itself
                setBypassDiode(1, false); currentLimit(0) = 480   # the lower of two
                setBypassDiode(0, false); currentLimit(0) = 400   # the lowest of three
                setBypassDiode(1, true); currentLimit(0) = 400
                setBypassDiode(0, true); currentLimit(0) = 800
                """);
        Runs.run("Strings", "but not more than the photocurrent of any of its modules that has no bypass diode (of 0)", """
                array(3)
                setIrradiance(1, 0); setBypassDiode(1, false)
                currentLimit(0) = 0; stringVoltage(0, 0) = 1200; stringVoltage(0, 1) = BAD_VALUE
                setIrradiance(1, 2); currentLimit(0) = 1; stringVoltage(0, 1) = 1200
                """);
        Runs.run("Strings", "The current limit of an empty string is 0", """
                array(0, 1)
                currentLimit(0) = 0; moveModule(0, 0) = 0; currentLimit(0) = 800
                currentLimit(1) = 0    # it has become empty
                """);
        Runs.run("Strings", "The current limit of an empty string is 0 (its last module had no bypass diode)", """
                array(1, 0)
                setIrradiance(0, 500); setBypassDiode(0, false); currentLimit(0) = 400
                moveModule(0, 1) = 0; currentLimit(0) = 0; currentLimit(1) = 400
                addModule(0, 700, 400) = 1; currentLimit(0) = 700
                """);
    }

    private static void curves() {
        Runs.run("Strings", "A string can carry every current from 0 to its current limit", """
                array(1, 0)
                stringVoltage(0, -1) = BAD_VALUE; stringVoltage(0, 0) = 400
                stringVoltage(0, 800) = 400; stringVoltage(0, 801) = BAD_VALUE
                stringVoltage(1, -1) = BAD_VALUE; stringVoltage(1, 0) = 0; stringVoltage(1, 1) = BAD_VALUE
                """);
        Runs.run("Strings", "The voltage of a string at such a current is the sum of the voltages of its modules", """
                addString(); addModule(0, 100, 1); addModule(0, 200, 20); addModule(0, 300, 300)
                stringVoltage(0, 0) = 321; stringVoltage(0, 100) = 321
                stringVoltage(0, 101) = 313; stringVoltage(0, 200) = 313
                stringVoltage(0, 201) = 286; stringVoltage(0, 300) = 286
                """);
        neverIncreases();
        Runs.run("Strings", "The power of a string at a current is the current times the voltage; it can be negative", """
                array(2); addModule(0, 100, 13)
                shade(0, 1, 100)
                stringVoltage(0, 100) = -1; stringPower(0, 100) = -100; stringPower(0, 1) = -1
                stringPower(0, 0) = 0
                setDiodeDrop(6); stringPower(0, 100) = 100
                """);
    }

    /** Each voltage but the first is due from the modules' own, so a curve that rises would show. */
    private static void neverIncreases() {
        StringBuilder calls = new StringBuilder("addString(); addModule(0, 60, 9); addModule(0, 120, 40);"
                + "setIrradiance(0, 500); setResistance(0, 5000); setResistance(1, 5000);");
        for (int i = 0; i <= 120; i++) {
            int first = i > 30 ? -7 : Math.max(0, 9 - i / 2);
            int second = Math.max(0, 40 - i / 2);
            calls.append("stringVoltage(0, ").append(i).append(") = ").append(first + second).append(";");
        }
        Runs.run("Strings", "it never increases with the current", calls + "stringVoltage(0, 121) = BAD_VALUE");
    }

    private static void bestCurrents() {
        Runs.run("Strings", "the current from 0 to the current limit with the greatest power (the limit)", """
                array(1)
                bestCurrent(0) = 800; bestPower(0) = 320000
                setBypassDiode(0, false); addModule(0, 900, 400); bestCurrent(0) = 800; bestPower(0) = 640000
                """);
        Runs.run("Strings", "the current from 0 to the current limit with the greatest power (0)", """
                array(2, 0); addModule(0, 100, 13)
                shade(0, 1, 100)
                bestCurrent(0) = 0; bestPower(0) = 0       # from 1 on the power is below 0
                setIrradiance(2, 0)
                bestCurrent(0) = 0; bestPower(0) = 0       # there is no other current
                bestCurrent(1) = 0; bestPower(1) = 0       # the string is empty
                """);
        Runs.run("Strings", "if several currents have the greatest power, it is the lowest of them", """
                array(2)
                setIrradiance(1, 500); setDiodeDrop(0)
                stringPower(0, 400) = 320000; stringPower(0, 800) = 320000
                bestCurrent(0) = 400; bestPower(0) = 320000
                """);
        Runs.run("Strings", "if several currents have the greatest power, it is the lowest of them (neighbours)", """
                addString(); addModule(0, 1000, 100); addModule(0, 1000, 100)
                setResistance(0, 5000); setResistance(1, 4999)    # a voltage of 201 - i
                stringPower(0, 99) = 10098; stringPower(0, 100) = 10100; stringPower(0, 101) = 10100
                bestCurrent(0) = 100
                """);
        Runs.run("Strings", "if several currents have the greatest power, it is the lowest of them (all of 0)", """
                array(1); addModule(0, 100, 7)
                setIrradiance(0, 0)
                stringPower(0, 0) = 0; stringPower(0, 1) = 0; stringPower(0, 100) = 0
                bestCurrent(0) = 0; bestPower(0) = 0
                """);
        Runs.run("Strings", "The best power is the power at the best current", """
                array(3)
                setIrradiance(2, 500)
                bestCurrent(0) = 800; stringPower(0, 800) = 634400; bestPower(0) = 634400
                setIrradiance(1, 500)
                bestCurrent(0) = 400; stringPower(0, 400) = 480000; bestPower(0) = 480000
                """);
    }

    private static void arrays() {
        Runs.run("Array", "the greatest current from 0 to its current limit at which the voltage of the string is at least v", """
                array(2)
                setIrradiance(1, 500)
                arrayCurrent(392) = 800; arrayCurrent(393) = 800; arrayCurrent(394) = 400
                arrayCurrent(799) = 400; arrayCurrent(800) = 400; arrayCurrent(801) = 0
                setBypassDiode(1, false); arrayCurrent(0) = 400; arrayCurrent(393) = 400
                """);
        Runs.run("Array", "the greatest current from 0 to its current limit at which the voltage of the string is at least v (slope)", """
                array(1)
                setResistance(0, 5000)
                stringVoltage(0, 201) = 300; stringVoltage(0, 202) = 299
                arrayCurrent(300) = 201; arrayCurrent(299) = 203
                arrayCurrent(400) = 1; arrayCurrent(0) = 800; arrayCurrent(1) = 799
                """);
        Runs.run("Array", "the greatest current from 0 to its current limit at which the voltage of the string is at least v (of 0)", """
                array(1); addModule(0, 100, 6)
                setIrradiance(0, 1)    # no photocurrent
                stringVoltage(0, 0) = 406; stringVoltage(0, 1) = -1; arrayCurrent(0) = 0
                setDiodeDrop(6); stringVoltage(0, 100) = 0; arrayCurrent(0) = 100; arrayCurrent(1) = 0
                """);
        Runs.run("Array", "if there is no such current, the string delivers 0", """
                array(2, 1)
                arrayCurrent(400) = 1600; arrayCurrent(401) = 800
                arrayCurrent(800) = 800; arrayCurrent(801) = 0
                """);
        Runs.run("Array", "if there is no such current, the string delivers 0 (an empty string)", """
                array(0, 1)
                arrayCurrent(0) = 800; arrayCurrent(1) = 800; arrayCurrent(400) = 800; arrayCurrent(401) = 0
                """);
        Runs.run("Array", "The array current at v is the sum over all strings", """
                array(1, 1, 1, 1, 1, 1)
                setIrradiance(0, 10); setIrradiance(5, 100)
                arrayCurrent(0) = 3288; arrayCurrent(400) = 3288; arrayCurrent(401) = 0
                """);
        Runs.run("Array", "the array power at v is v times the array current", """
                array(1, 2)
                setIrradiance(0, 1001); bestArrayVoltage() = 400     # 1600 times 400, as 800 times 800
                setIrradiance(0, 998); bestArrayVoltage() = 800      # 1598 times 400 is less
                setIrradiance(0, 1002); bestArrayVoltage() = 400     # 1601 times 400 is more
                """);
        Runs.run("Array", "Without strings both are 0 at every voltage", """
                arrayCurrent(0) = 0; arrayCurrent(1) = 0; arrayCurrent(3600) = 0; arrayCurrent(7199) = 0
                arrayCurrent(7200) = 0; bestArrayVoltage() = 0
                arrayCurrent(-1) = BAD_VALUE; arrayCurrent(7201) = BAD_VALUE
                """);
    }

    public static void main(String[] args) {
        Runs.begin();
        lastCall();
        rounding();
        moduleIndices();
        photocurrents();
        moduleVoltages();
        stringIndices();
        limits();
        curves();
        bestCurrents();
        arrays();
        Runs.end();
    }
}
