/** The boundary cases that promises 26 to 29 name: the array. */
public final class ArrayBoundaries {
    private static final String FULLEST = fullest();

    /** Six strings of four modules, each with the greatest current and voltage. */
    private static String fullest() {
        StringBuilder calls = new StringBuilder();
        for (int s = 0; s < 6; s++) {
            calls.append("addString();");
            for (int p = 0; p < 4; p++) {
                calls.append("addModule(").append(s).append(", 1000, 600);");
                calls.append("setIrradiance(").append(4 * s + p).append(", 1200);");
            }
        }
        return calls.toString();
    }

    /** One string of twelve modules with the greatest voltage: 7200 in all. */
    private static String longest() {
        return "addString();" + "addModule(0, 1000, 600);".repeat(12);
    }

    private static void arrayCurrent() {
        Runs.run("Promise 26", "voltage: from 0 to 7200", """
                array(1)
                arrayCurrent(-1) = BAD_VALUE; arrayCurrent(0) = 800; arrayCurrent(7200) = 0
                arrayCurrent(7201) = BAD_VALUE; arrayCurrent(LEAST) = BAD_VALUE; arrayCurrent(MOST) = BAD_VALUE
                """);
        Runs.run("Promise 26", "voltage: from 0 to 7200 (which a string can have)", longest() + """
                arrayCurrent(0) = 1000; arrayCurrent(7200) = 1000; arrayCurrent(7201) = BAD_VALUE
                setIrradiance(0, 500); arrayCurrent(7200) = 500; arrayCurrent(6594) = 500; arrayCurrent(6593) = 1000
                """);
        Runs.run("Promise 26", "Returns the array current at the voltage (no strings, empty strings)", """
                arrayCurrent(0) = 0; arrayCurrent(7200) = 0; addString()
                arrayCurrent(0) = 0; arrayCurrent(1) = 0; arrayCurrent(7200) = 0
                addString(); addModule(1, 800, 400); arrayCurrent(0) = 800; arrayCurrent(400) = 800
                arrayCurrent(401) = 0
                """);
        Runs.run("Promise 26", "Returns the array current at the voltage (the most)", FULLEST + """
                arrayCurrent(0) = 7200; arrayCurrent(2400) = 7200; arrayCurrent(2401) = 0
                """);
        Runs.run("Promise 26", "Returns the array current at the voltage (below 0 a string delivers 0)", """
                array(2, 1); addModule(0, 100, 13)
                shade(0, 1, 100); stringVoltage(0, 1) = -1
                arrayCurrent(0) = 800; setIrradiance(2, 0); arrayCurrent(0) = 0
                """);
    }

    private static void bestArrayVoltage() {
        Runs.run("Promise 27", "the voltage from 0 to 7200 (0)", """
                bestArrayVoltage() = 0; addString(); bestArrayVoltage() = 0
                addModule(0, 800, 400); bestArrayVoltage() = 400
                setIrradiance(0, 1); bestArrayVoltage() = 0
                """);
        Runs.run("Promise 27", "the voltage from 0 to 7200 (7200)", longest() + "bestArrayVoltage() = 7200");
        Runs.run("Promise 27", "the voltage from 0 to 7200 (1)", """
                array(0); addModule(0, 1, 1); bestArrayVoltage() = 1
                """);
        Runs.run("Promise 27", "with the greatest array power (the most)", FULLEST + "bestArrayVoltage() = 2400");
        Runs.run("Promise 27", "the lowest of them if there are several", """
                array(2, 1)
                arrayCurrent(400) = 1600; arrayCurrent(800) = 800; bestArrayVoltage() = 400
                setIrradiance(2, 998); bestArrayVoltage() = 800; setIrradiance(2, 1002); bestArrayVoltage() = 400
                """);
        Runs.run("Promise 27", "the lowest of them if there are several (neighbours)", """
                array(0); addModule(0, 2, 2)
                setResistance(0, 5000); arrayCurrent(1) = 2; arrayCurrent(2) = 1; bestArrayVoltage() = 1
                """);
        Runs.run("Promise 27", "the lowest of them if there are several (a power of 0 at all)", """
                array(1, 1)
                shade(0, 1, 100); arrayCurrent(0) = 0; arrayCurrent(400) = 0; bestArrayVoltage() = 0
                """);
    }

    private static void totalBestPower() {
        Runs.run("Promise 28", "the sum of the best powers of all strings (none, empty ones)", """
                totalBestPower() = 0; addString(); totalBestPower() = 0
                addString(); addModule(1, 800, 400); totalBestPower() = 320000
                """);
        Runs.run("Promise 28", "the sum of the best powers of all strings (the most)", FULLEST + """
                totalBestPower() = 17280000; setIrradiance(23, 0); bestPower(5) = 2151600
                totalBestPower() = 16551600
                """);
        Runs.run("Promise 28", "the sum of the best powers of all strings (none is below 0)", """
                array(2, 1); addModule(0, 100, 13)
                shade(0, 1, 100); stringPower(0, 100) = -100; totalBestPower() = 320000
                """);
    }

    private static void mismatchLoss() {
        Runs.run("Promise 29", "the sum of the peak powers of all modules minus the sum of the best powers of all strings (none, empty ones)", """
                mismatchLoss() = 0; addString(); mismatchLoss() = 0
                addString(); addModule(1, 800, 400); mismatchLoss() = 0
                """);
        Runs.run("Promise 29", "the sum of the peak powers of all modules minus the sum of the best powers of all strings (0 and more)", """
                array(2, 1)
                mismatchLoss() = 0
                setIrradiance(2, 500); mismatchLoss() = 0        # it is alone in its string
                setIrradiance(1, 998); mismatchLoss() = 800      # 800 and 798
                setIrradiance(1, 0); mismatchLoss() = 5600       # only the diode's drop
                setBypassDiode(1, false); mismatchLoss() = 320000
                """);
        Runs.run("Promise 29", "the sum of the peak powers of all modules (all 24)", FULLEST + """
                mismatchLoss() = 0; setIrradiance(0, 0); setIrradiance(23, 0); mismatchLoss() = 16800
                setBypassDiode(23, false); mismatchLoss() = 2168400
                """);
        Runs.run("Promise 29", "minus the sum of the best powers of all strings (none is below 0)", """
                array(2); addModule(0, 100, 13)
                shade(0, 1, 100); stringPower(0, 100) = -100; mismatchLoss() = 1300
                """);
    }

    public static void main(String[] args) {
        Runs.begin();
        arrayCurrent();
        bestArrayVoltage();
        totalBestPower();
        mismatchLoss();
        Runs.end();
    }
}
