/** The four examples of the document's description, each on a new object. */
public final class Examples {
    private static int wrong = 0;

    private static void due(int example, String call, long got, long want) {
        if (got != want) {
            wrong++;
            System.out.println("example " + example + ": " + call + " answered " + got + ", due is " + want);
        }
    }

    private static void shadedModule() {
        PvArray x = new PvArray();
        due(1, "addString()", x.addString(), 0);
        due(1, "addModule(0, 800, 400)", x.addModule(0, 800, 400), 0);
        due(1, "addModule(0, 800, 400)", x.addModule(0, 800, 400), 1);
        due(1, "addModule(0, 800, 400)", x.addModule(0, 800, 400), 2);
        due(1, "setIrradiance(2, 500)", x.setIrradiance(2, 500), 1000);
        due(1, "photocurrent(2)", x.photocurrent(2), 400);
        due(1, "currentLimit(0)", x.currentLimit(0), 800);
        due(1, "stringVoltage(0, 400)", x.stringVoltage(0, 400), 1200);
        due(1, "stringVoltage(0, 401)", x.stringVoltage(0, 401), 793);
        due(1, "peakCount(0)", x.peakCount(0), 2);
        due(1, "peakCurrent(0, 0)", x.peakCurrent(0, 0), 400);
        due(1, "peakCurrent(0, 1)", x.peakCurrent(0, 1), 800);
        due(1, "bestCurrent(0)", x.bestCurrent(0), 800);
        due(1, "bestPower(0)", x.bestPower(0), 634400);
        due(1, "bypassedModules(0, 800)", x.bypassedModules(0, 800), 4);
    }

    private static void noBypassDiode() {
        PvArray x = new PvArray();
        due(2, "addString()", x.addString(), 0);
        due(2, "addModule(0, 500, 300)", x.addModule(0, 500, 300), 0);
        due(2, "setBypassDiode(0, false)", x.setBypassDiode(0, false), 1);
        due(2, "moduleVoltage(0, 501)", x.moduleVoltage(0, 501), -1005);
        due(2, "addModule(0, 900, 300)", x.addModule(0, 900, 300), 1);
        due(2, "currentLimit(0)", x.currentLimit(0), 500);
        due(2, "stringVoltage(0, 501)", x.stringVoltage(0, 501), -1003);
        due(2, "addModule(1, 500, 300)", x.addModule(1, 500, 300), -1001);
        due(2, "addModule(0, 0, 300)", x.addModule(0, 0, 300), -1003);
        due(2, "peakCurrent(0, 1)", x.peakCurrent(0, 1), -1005);
    }

    private static void twoTrackers() {
        PvArray x = new PvArray();
        due(3, "addString()", x.addString(), 0);
        due(3, "addModule(0, 800, 400)", x.addModule(0, 800, 400), 0);
        due(3, "addModule(0, 800, 400)", x.addModule(0, 800, 400), 1);
        due(3, "setIrradiance(1, 500)", x.setIrradiance(1, 500), 1000);
        due(3, "perturbAndObserve(0, 0, 50, 20)", x.perturbAndObserve(0, 0, 50, 20), 400);
        due(3, "perturbAndObserve(0, 0, 50, 19)", x.perturbAndObserve(0, 0, 50, 19), 400);
        due(3, "scanAndClimb(0, 300)", x.scanAndClimb(0, 300), 400);
        due(3, "bestCurrent(0)", x.bestCurrent(0), 400);
    }

    private static void exchangingAndRegrouping() {
        PvArray x = new PvArray();
        due(4, "addString()", x.addString(), 0);
        due(4, "addString()", x.addString(), 1);
        due(4, "addModule(0, 800, 400)", x.addModule(0, 800, 400), 0);
        due(4, "addModule(0, 800, 400)", x.addModule(0, 800, 400), 1);
        due(4, "addModule(1, 800, 400)", x.addModule(1, 800, 400), 2);
        due(4, "addModule(1, 800, 400)", x.addModule(1, 800, 400), 3);
        due(4, "setIrradiance(0, 400)", x.setIrradiance(0, 400), 1000);
        due(4, "setIrradiance(2, 400)", x.setIrradiance(2, 400), 1000);
        due(4, "totalBestPower()", x.totalBestPower(), 628800);
        due(4, "bestSwapGain()", x.bestSwapGain(), 267200);
        due(4, "bestSwapLower()", x.bestSwapLower(), 0);
        due(4, "bestSwapHigher()", x.bestSwapHigher(), 3);
        due(4, "regroup()", x.regroup(), 2);
        due(4, "stringOf(0)", x.stringOf(0), 1);
        due(4, "totalBestPower()", x.totalBestPower(), 896000);
        due(4, "mismatchLoss()", x.mismatchLoss(), 0);
    }

    public static void main(String[] args) {
        shadedModule();
        noBypassDiode();
        twoTrackers();
        exchangingAndRegrouping();
        System.out.println(wrong == 0 ? "all answers are as due" : wrong + " answers are not as due");
        if (wrong != 0) {
            System.exit(1);
        }
    }
}
