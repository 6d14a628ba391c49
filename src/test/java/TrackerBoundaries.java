/** The boundary cases that promises 24 and 25 name: the two trackers. */
public final class TrackerBoundaries {
    /** Powers of -1 times the current, up to 100. */
    private static final String NEGATIVE = "array(2); addModule(0, 100, 13); shade(0, 1, 100);";

    /** A voltage of 201 - i from 1 to 200, so that 100 and 101 have the greatest power, 10100. */
    private static final String LEVEL = "array(0); addModule(0, 1000, 100); addModule(0, 1000, 100);"
            + "setResistance(0, 5000); setResistance(1, 4999);";

    private static void perturbArguments() {
        Runs.run("Promise 24", "string: index of an existing string", """
                array(1, 0)
                perturbAndObserve(-1, 0, 1, 1) = NO_SUCH_STRING; perturbAndObserve(0, 0, 1, 1) = 1
                perturbAndObserve(1, 0, 1, 1) = 0; perturbAndObserve(2, 0, 1, 1) = NO_SUCH_STRING
                perturbAndObserve(LEAST, 0, 1, 1) = NO_SUCH_STRING
                perturbAndObserve(MOST, 0, 1, 1) = NO_SUCH_STRING
                """);
        Runs.run("Promise 24", "start: from 0 to the current limit of the string", """
                array(1, 0)
                perturbAndObserve(0, -1, 1, 0) = BAD_VALUE; perturbAndObserve(0, 0, 1, 0) = 0
                perturbAndObserve(0, 800, 1, 0) = 800; perturbAndObserve(0, 801, 1, 0) = BAD_VALUE
                perturbAndObserve(0, LEAST, 1, 0) = BAD_VALUE; perturbAndObserve(0, MOST, 1, 0) = BAD_VALUE
                perturbAndObserve(1, -1, 1, 0) = BAD_VALUE; perturbAndObserve(1, 0, 1, 0) = 0
                perturbAndObserve(1, 1, 1, 0) = BAD_VALUE
                """);
        Runs.run("Promise 24", "step: from 1 to 100", """
                array(1)
                perturbAndObserve(0, 5, 0, 1) = BAD_VALUE; perturbAndObserve(0, 5, 1, 1) = 6
                perturbAndObserve(0, 5, 100, 1) = 105; perturbAndObserve(0, 5, 101, 1) = BAD_VALUE
                perturbAndObserve(0, 5, -1, 1) = BAD_VALUE
                perturbAndObserve(0, 5, LEAST, 1) = BAD_VALUE; perturbAndObserve(0, 5, MOST, 1) = BAD_VALUE
                """);
        Runs.run("Promise 24", "iterations: from 0 to 200", """
                array(1)
                perturbAndObserve(0, 5, 1, -1) = BAD_VALUE; perturbAndObserve(0, 5, 1, 0) = 5
                perturbAndObserve(0, 5, 1, 200) = 205; perturbAndObserve(0, 5, 1, 201) = BAD_VALUE
                perturbAndObserve(0, 5, 1, LEAST) = BAD_VALUE; perturbAndObserve(0, 5, 1, MOST) = BAD_VALUE
                """);
        Runs.run("Promise 24", "BAD_VALUE if start, step or iterations is out of range", """
                array(1)
                perturbAndObserve(0, 801, 1, 0) = BAD_VALUE; perturbAndObserve(0, 800, 0, 0) = BAD_VALUE
                perturbAndObserve(0, 800, 1, -1) = BAD_VALUE; perturbAndObserve(0, -1, 101, 201) = BAD_VALUE
                perturbAndObserve(0, 800, 101, 200) = BAD_VALUE; perturbAndObserve(0, 0, 100, 201) = BAD_VALUE
                """);
    }

    private static void perturb() {
        Runs.run("Promise 24", "The tracker starts at the current start with the direction up", NEGATIVE + """
                perturbAndObserve(0, 50, 10, 0) = 50; perturbAndObserve(0, 50, 10, 1) = 50
                perturbAndObserve(0, 50, 10, 2) = 40
                """);
        Runs.run("Promise 24", "the present current plus step if the direction is up", """
                array(1)
                perturbAndObserve(0, 0, 100, 7) = 700; perturbAndObserve(0, 0, 100, 8) = 800
                perturbAndObserve(0, 799, 1, 1) = 800; perturbAndObserve(0, 0, 1, 1) = 1
                """);
        Runs.run("Promise 24", "minus step if the direction is down", NEGATIVE + """
                perturbAndObserve(0, 50, 20, 2) = 30; perturbAndObserve(0, 50, 20, 3) = 10
                perturbAndObserve(0, 100, 100, 2) = 0; perturbAndObserve(0, 1, 1, 2) = 0
                """);
        Runs.run("Promise 24", "A candidate below 0 is replaced by 0", NEGATIVE + """
                perturbAndObserve(0, 1, 2, 2) = 0; perturbAndObserve(0, 99, 100, 2) = 0
                perturbAndObserve(0, 50, 20, 4) = 0; perturbAndObserve(0, 50, 20, 5) = 0
                perturbAndObserve(0, 50, 20, 200) = 0
                """);
        Runs.run("Promise 24", "a candidate above the current limit is replaced by the current limit", """
                array(1)
                perturbAndObserve(0, 799, 2, 1) = 800; perturbAndObserve(0, 701, 100, 1) = 800
                perturbAndObserve(0, 0, 70, 11) = 770; perturbAndObserve(0, 0, 70, 12) = 800
                perturbAndObserve(0, 800, 1, 1) = 800; perturbAndObserve(0, 800, 100, 200) = 800
                """);
        Runs.run("Promise 24", "a candidate above the current limit is replaced by the current limit (of 0)", """
                array(1, 0)
                setIrradiance(0, 0)
                perturbAndObserve(0, 0, 100, 1) = 0; perturbAndObserve(0, 0, 1, 200) = 0
                perturbAndObserve(1, 0, 100, 1) = 0; perturbAndObserve(1, 0, 1, 200) = 0
                """);
        Runs.run("Promise 24", "a candidate above the current limit (beyond which the power would rise)", """
                array(1); addModule(0, 100, 1)
                setBypassDiode(1, false); setDiodeDrop(0)
                perturbAndObserve(0, 95, 7, 1) = 100; perturbAndObserve(0, 95, 7, 9) = 100
                """);
        Runs.run("Promise 24", "If the power at the candidate is greater (alike is not)", LEVEL + """
                perturbAndObserve(0, 100, 1, 1) = 100; perturbAndObserve(0, 100, 1, 200) = 100
                perturbAndObserve(0, 101, 1, 1) = 101; perturbAndObserve(0, 101, 1, 200) = 101
                perturbAndObserve(0, 99, 1, 200) = 100; perturbAndObserve(0, 102, 1, 2) = 101
                """);
        Runs.run("Promise 24", "Otherwise the present current stays and the direction is reversed", """
                array(2)
                setIrradiance(1, 500)
                perturbAndObserve(0, 400, 50, 1) = 400    # 450 has less power
                perturbAndObserve(0, 400, 50, 2) = 400    # and 350
                perturbAndObserve(0, 400, 50, 3) = 400    # and 450 again
                perturbAndObserve(0, 401, 1, 1) = 402
                perturbAndObserve(0, 450, 60, 1) = 510
                """);
        Runs.run("Promise 24", "the direction is reversed (twice)", LEVEL + """
                perturbAndObserve(0, 90, 20, 1) = 110     # 110 times 91 is more than 90 times 111
                perturbAndObserve(0, 90, 20, 2) = 110     # 130 is less: down
                perturbAndObserve(0, 90, 20, 3) = 110     # 90 is less: up
                perturbAndObserve(0, 150, 20, 1) = 150; perturbAndObserve(0, 150, 20, 2) = 130
                perturbAndObserve(0, 150, 20, 3) = 110; perturbAndObserve(0, 150, 20, 4) = 110
                """);
    }

    private static void scanArguments() {
        Runs.run("Promise 25", "string: index of an existing string", """
                array(1, 0)
                scanAndClimb(-1, 1) = NO_SUCH_STRING; scanAndClimb(0, 1) = 800; scanAndClimb(1, 1) = 0
                scanAndClimb(2, 1) = NO_SUCH_STRING
                scanAndClimb(LEAST, 1) = NO_SUCH_STRING; scanAndClimb(MOST, 1) = NO_SUCH_STRING
                """);
        Runs.run("Promise 25", "interval: from 1 to 500; BAD_VALUE if interval is out of range", """
                array(1)
                scanAndClimb(0, 0) = BAD_VALUE; scanAndClimb(0, 1) = 800; scanAndClimb(0, 500) = 800
                scanAndClimb(0, 501) = BAD_VALUE; scanAndClimb(0, -1) = BAD_VALUE
                scanAndClimb(0, LEAST) = BAD_VALUE; scanAndClimb(0, MOST) = BAD_VALUE
                """);
    }

    private static void scan() {
        Runs.run("Promise 25", "It evaluates the power at 0, interval, 2 times interval and so on (0 is the best)", NEGATIVE + """
                scanAndClimb(0, 1) = 0; scanAndClimb(0, 50) = 0; scanAndClimb(0, 100) = 0; scanAndClimb(0, 101) = 0
                """);
        Runs.run("Promise 25", "It evaluates the power at 0, interval, 2 times interval and so on (only 0)", """
                array(2)
                setIrradiance(0, 250); setIrradiance(1, 125)    # peaks at 100 and 200
                scanAndClimb(0, 201) = 100; scanAndClimb(0, 500) = 100
                """);
        Runs.run("Promise 25", "It evaluates the power at 0, interval, 2 times interval and so on (by 1 and by 2)", """
                array(0); addModule(0, 796, 401); addModule(0, 399, 399)
                setDiodeDrop(0)
                stringPower(0, 398) = 318400; stringPower(0, 399) = 319200; stringPower(0, 796) = 319196
                scanAndClimb(0, 1) = 399; scanAndClimb(0, 2) = 796; scanAndClimb(0, 3) = 399
                """);
        Runs.run("Promise 25", "and so on, up to the current limit", """
                array(1); addModule(0, 350, 415)
                setDiodeDrop(0)
                stringPower(0, 200) = 163000; stringPower(0, 400) = 160000; stringPower(0, 600) = 240000
                scanAndClimb(0, 200) = 800    # 800 has the greatest power of all
                scanAndClimb(0, 300) = 350    # 300 times 815 is more than 600 times 400, and 900 is above 800
                scanAndClimb(0, 266) = 800    # 798 is the last and the best
                """);
        Runs.run("Promise 25", "The current limit itself is scanned only if it is a multiple of interval", """
                array(1); addModule(0, 350, 415)
                setDiodeDrop(0)
                stringPower(0, 350) = 285250; stringPower(0, 800) = 320000
                scanAndClimb(0, 400) = 800    # it is
                scanAndClimb(0, 267) = 350    # it is not, and 267 times 815 is more than 534 times 400
                scanAndClimb(0, 300) = 350
                """);
        Runs.run("Promise 25", "if several have the greatest power, it starts at the lowest of them", """
                array(2)
                setIrradiance(1, 500); setDiodeDrop(0)
                scanAndClimb(0, 400) = 400    # 400 and 800 are alike
                scanAndClimb(0, 161) = 400    # 322 and 644 are alike
                scanAndClimb(0, 160) = 800    # 320 and 640 are alike, but 800 is more
                """);
        Runs.run("Promise 25", "if several have the greatest power, it starts at the lowest of them (neighbours)", LEVEL + """
                scanAndClimb(0, 1) = 100
                """);
        Runs.run("Promise 25", "if several have the greatest power, it starts at the lowest of them (all of 0)", """
                array(1); addModule(0, 100, 7)
                setIrradiance(0, 0); stringPower(0, 50) = 0; stringPower(0, 100) = 0
                scanAndClimb(0, 1) = 0; scanAndClimb(0, 50) = 0; scanAndClimb(0, 100) = 0
                """);
    }

    private static void climb() {
        Runs.run("Promise 25", "if the present current is below the current limit and the power one above is greater", """
                array(1)
                scanAndClimb(0, 500) = 800; scanAndClimb(0, 399) = 800    # from 798
                scanAndClimb(0, 400) = 800                                # from the limit itself
                """);
        Runs.run("Promise 25", "if the present current is below the current limit (beyond which the power would rise)", """
                array(1); addModule(0, 100, 1)
                setBypassDiode(1, false); setDiodeDrop(0)
                scanAndClimb(0, 1) = 100; scanAndClimb(0, 60) = 100; scanAndClimb(0, 101) = 100
                """);
        Runs.run("Promise 25", "and the power one above is greater (both neighbours are: it goes up)", """
                array(1); addModule(0, 499, 400)
                stringPower(0, 499) = 399200; stringPower(0, 500) = 196500; stringPower(0, 501) = 196893
                scanAndClimb(0, 500) = 800
                """);
        Runs.run("Promise 25", "and the power one above is greater (alike is not)", LEVEL + """
                scanAndClimb(0, 90) = 100; scanAndClimb(0, 100) = 100    # not on to 101
                """);
        Runs.run("Promise 25", "otherwise, if the present current is above 0 and the power one below is greater, it decreases by 1", """
                array(0); addModule(0, 500, 1); addModule(0, 499, 400)
                setDiodeDrop(0)
                stringPower(0, 500) = 500; stringPower(0, 499) = 200099; scanAndClimb(0, 500) = 499
                """);
        Runs.run("Promise 25", "if the present current is above 0 and the power one below is greater (that two below is less)", """
                array(0); addModule(0, 500, 400); addModule(0, 499, 1)
                setDiodeDrop(0)
                stringPower(0, 500) = 200000; stringPower(0, 499) = 200099; stringPower(0, 498) = 199698
                scanAndClimb(0, 500) = 499
                """);
        Runs.run("Promise 25", "if the present current is above 0 and the power one below is greater (alike is not)", LEVEL + """
                scanAndClimb(0, 150) = 101; scanAndClimb(0, 101) = 101    # not on to 100
                """);
        Runs.run("Promise 25", "if the present current is above 0", """
                array(1, 0)
                setIrradiance(0, 0)
                scanAndClimb(0, 1) = 0; scanAndClimb(0, 500) = 0; scanAndClimb(1, 1) = 0; scanAndClimb(1, 500) = 0
                """);
        Runs.run("Promise 25", "Then it repeats the following step until it stops (as often as can be)", """
                array(0); addModule(0, 1000, 600)
                setIrradiance(0, 499); scanAndClimb(0, 500) = 499      # 499 steps up from 0
                setIrradiance(0, 999); scanAndClimb(0, 500) = 999      # 499 steps up from 500
                setIrradiance(0, 1); scanAndClimb(0, 500) = 1
                """);
    }

    public static void main(String[] args) {
        Runs.begin();
        perturbArguments();
        perturb();
        scanArguments();
        scan();
        climb();
        Runs.end();
    }
}
