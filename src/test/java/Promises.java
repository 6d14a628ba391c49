/** Every promise of the document by its number: ordinary inputs, named edges and wrong inputs. */
public final class Promises {
    private static final int S = PvArray.NO_SUCH_STRING;
    private static final int M = PvArray.NO_SUCH_MODULE;
    private static final int BAD = PvArray.BAD_VALUE;
    private static final int FULL = PvArray.FULL;
    private static final int NONE = PvArray.NONE;
    private static final long NO_POWER = PvArray.NO_POWER;
    private static final int LEAST = Integer.MIN_VALUE;
    private static final int MOST = Integer.MAX_VALUE;

    private static int promise = 0;
    private static int wrong = 0;

    private static void due(String call, long got, long want) {
        if (got != want) {
            wrong++;
            System.out.println("promise " + promise + ": " + call + " answered " + got + ", due is " + want);
        }
    }

    /** An array with as many strings as sizes are given, and so many modules of 800 and 400 in each. */
    private static PvArray array(int... sizes) {
        PvArray x = new PvArray();
        for (int s = 0; s < sizes.length; s++) {
            x.addString();
            for (int p = 0; p < sizes[s]; p++) {
                x.addModule(s, 800, 400);
            }
        }
        return x;
    }

    private static void layout(PvArray x, int string, int... modules) {
        for (int p = 0; p < modules.length; p++) {
            due("moduleAt(" + string + ", " + p + ")", x.moduleAt(string, p), modules[p]);
            due("stringOf(" + modules[p] + ")", x.stringOf(modules[p]), string);
        }
        due("moduleAt(" + string + ", " + modules.length + ")", x.moduleAt(string, modules.length), NONE);
    }

    private static void constants() {
        due("NO_SUCH_STRING", PvArray.NO_SUCH_STRING, -1001);
        due("NO_SUCH_MODULE", PvArray.NO_SUCH_MODULE, -1002);
        due("BAD_VALUE", PvArray.BAD_VALUE, -1003);
        due("FULL", PvArray.FULL, -1004);
        due("NONE", PvArray.NONE, -1005);
        due("NO_POWER", PvArray.NO_POWER, Long.MIN_VALUE);
    }

    private static void newObject() {
        promise = 1;
        PvArray x = new PvArray();
        due("stringOf(0)", x.stringOf(0), M);
        due("currentLimit(0)", x.currentLimit(0), S);
        due("totalBestPower()", x.totalBestPower(), 0);
        due("mismatchLoss()", x.mismatchLoss(), 0);
        due("arrayCurrent(0)", x.arrayCurrent(0), 0);
        due("bestArrayVoltage()", x.bestArrayVoltage(), 0);
        due("bestSwapGain()", x.bestSwapGain(), 0);
        due("bestSwapLower()", x.bestSwapLower(), NONE);
        due("bestSwapHigher()", x.bestSwapHigher(), NONE);
        due("regroup()", x.regroup(), 0);
        due("setDiodeDrop(3)", x.setDiodeDrop(3), 7);
        PvArray other = new PvArray();
        due("setDiodeDrop(3) of another", other.setDiodeDrop(3), 7);
        due("addString() of another", other.addString(), 0);
        due("addString()", x.addString(), 0);
    }

    private static void addString() {
        promise = 2;
        PvArray x = new PvArray();
        for (int s = 0; s < 6; s++) {
            due("currentLimit(" + s + ") before", x.currentLimit(s), S);
            due("addString()", x.addString(), s);
            due("currentLimit(" + s + ") after", x.currentLimit(s), 0);
            due("moduleAt(" + s + ", 0)", x.moduleAt(s, 0), NONE);
        }
        due("addString() of a seventh", x.addString(), FULL);
        due("addString() of a seventh again", x.addString(), FULL);
        due("currentLimit(6)", x.currentLimit(6), S);
    }

    private static void addModule() {
        promise = 3;
        PvArray x = new PvArray();
        due("addModule(0, 1, 1) without strings", x.addModule(0, 1, 1), S);
        x.addString();
        x.addString();
        due("addModule(-1, 0, 0)", x.addModule(-1, 0, 0), S);
        due("addModule(2, 0, 0)", x.addModule(2, 0, 0), S);
        due("addModule(LEAST, 1, 1)", x.addModule(LEAST, 1, 1), S);
        due("addModule(MOST, 1, 1)", x.addModule(MOST, 1, 1), S);
        due("addModule(0, 0, 300)", x.addModule(0, 0, 300), BAD);
        due("addModule(0, 1001, 300)", x.addModule(0, 1001, 300), BAD);
        due("addModule(0, 500, 0)", x.addModule(0, 500, 0), BAD);
        due("addModule(0, 500, 601)", x.addModule(0, 500, 601), BAD);
        due("addModule(0, MOST, LEAST)", x.addModule(0, MOST, LEAST), BAD);
        due("stringOf(0) after refusals", x.stringOf(0), M);
        due("addModule(1, 1, 1)", x.addModule(1, 1, 1), 0);
        due("addModule(0, 1000, 600)", x.addModule(0, 1000, 600), 1);
        due("addModule(1, 700, 350)", x.addModule(1, 700, 350), 2);
        layout(x, 0, 1);
        layout(x, 1, 0, 2);
        due("photocurrent(2)", x.photocurrent(2), 700);
        due("moduleVoltage(2, 700)", x.moduleVoltage(2, 700), 350);
        due("moduleVoltage(2, 701)", x.moduleVoltage(2, 701), -7);
        due("setIrradiance(2, 1000)", x.setIrradiance(2, 1000), 1000);
        due("setResistance(2, 0)", x.setResistance(2, 0), 0);
        due("setBypassDiode(2, true)", x.setBypassDiode(2, true), 0);
        addModuleFull();
    }

    private static void addModuleFull() {
        PvArray x = array(12, 11, 0);
        due("addModule(0, 1, 1) to a full string", x.addModule(0, 1, 1), FULL);
        due("addModule(0, 0, 1) to a full string", x.addModule(0, 0, 1), BAD);
        due("addModule(3, 0, 1)", x.addModule(3, 0, 1), S);
        due("addModule(2, 5, 5), the 24th", x.addModule(2, 5, 5), 23);
        due("addModule(1, 5, 5), a 25th", x.addModule(1, 5, 5), FULL);
        due("addModule(1, 5, 0), a 25th", x.addModule(1, 5, 0), BAD);
        due("addModule(2, 5, 5), a 25th", x.addModule(2, 5, 5), FULL);
        due("moduleAt(1, 11)", x.moduleAt(1, 11), NONE);
        due("stringOf(24)", x.stringOf(24), M);
    }

    private static void setIrradiance() {
        promise = 4;
        PvArray x = array(2);
        due("setIrradiance(1, 1200)", x.setIrradiance(1, 1200), 1000);
        due("photocurrent(1)", x.photocurrent(1), 960);
        due("setIrradiance(1, 0)", x.setIrradiance(1, 0), 1200);
        due("photocurrent(1)", x.photocurrent(1), 0);
        due("photocurrent(0)", x.photocurrent(0), 800);
        due("setIrradiance(1, -1)", x.setIrradiance(1, -1), BAD);
        due("setIrradiance(1, 1201)", x.setIrradiance(1, 1201), BAD);
        due("setIrradiance(2, 1201)", x.setIrradiance(2, 1201), M);
        due("setIrradiance(-1, 5)", x.setIrradiance(-1, 5), M);
        due("setIrradiance(MOST, 5)", x.setIrradiance(MOST, 5), M);
        due("setIrradiance(1, 7)", x.setIrradiance(1, 7), 0);
        due("setIrradiance(1, 7)", x.setIrradiance(1, 7), 7);
    }

    private static void shade() {
        promise = 5;
        PvArray x = array(2, 2);
        x.setIrradiance(3, 333);
        due("shade(1, 3, 50)", x.shade(1, 3, 50), 3);
        due("setIrradiance(0, 1)", x.setIrradiance(0, 1), 1000);
        due("setIrradiance(1, 500)", x.setIrradiance(1, 500), 500);
        due("setIrradiance(3, 0)", x.setIrradiance(3, 0), 166);
        due("shade(0, 3, 0)", x.shade(0, 3, 0), 0);
        due("shade(0, 3, 1), 1 to 0, 500 to 495, 0 stays", x.shade(0, 3, 1), 3);
        due("setIrradiance(0, 9)", x.setIrradiance(0, 9), 0);
        due("setIrradiance(1, 9)", x.setIrradiance(1, 9), 495);
        due("photocurrent(2)", x.photocurrent(2), 396);
        due("shade(2, 2, 100)", x.shade(2, 2, 100), 1);
        due("photocurrent(2)", x.photocurrent(2), 0);
        due("shade(2, 2, 100)", x.shade(2, 2, 100), 0);
        due("shade(1, 0, 10)", x.shade(1, 0, 10), BAD);
        due("shade(0, 1, -1)", x.shade(0, 1, -1), BAD);
        due("shade(0, 1, 101)", x.shade(0, 1, 101), BAD);
        due("shade(4, 0, 101)", x.shade(4, 0, 101), M);
        due("shade(0, 4, 101)", x.shade(0, 4, 101), M);
        due("shade(-1, 3, 10)", x.shade(-1, 3, 10), M);
        due("shade(0, -1, 10)", x.shade(0, -1, 10), M);
        due("shade(0, MOST, 10)", x.shade(0, MOST, 10), M);
        due("setIrradiance(0, 9) after refusals", x.setIrradiance(0, 9), 9);
        due("setIrradiance(1, 9) after refusals", x.setIrradiance(1, 9), 9);
    }

    private static void setResistance() {
        promise = 6;
        PvArray x = array(2);
        due("setResistance(0, 5000)", x.setResistance(0, 5000), 0);
        due("moduleVoltage(0, 100)", x.moduleVoltage(0, 100), 350);
        due("moduleVoltage(1, 100)", x.moduleVoltage(1, 100), 400);
        due("setResistance(0, 5001)", x.setResistance(0, 5001), BAD);
        due("setResistance(0, -1)", x.setResistance(0, -1), BAD);
        due("setResistance(2, 5001)", x.setResistance(2, 5001), M);
        due("setResistance(-1, 1)", x.setResistance(-1, 1), M);
        due("setResistance(0, 0)", x.setResistance(0, 0), 5000);
        due("setResistance(0, 1)", x.setResistance(0, 1), 0);
    }

    private static void setBypassDiode() {
        promise = 7;
        PvArray x = array(2);
        due("setBypassDiode(1, true)", x.setBypassDiode(1, true), 0);
        due("setBypassDiode(1, false)", x.setBypassDiode(1, false), 1);
        due("setBypassDiode(1, false)", x.setBypassDiode(1, false), 0);
        due("moduleVoltage(1, 801)", x.moduleVoltage(1, 801), NONE);
        due("moduleVoltage(0, 801)", x.moduleVoltage(0, 801), -7);
        due("setBypassDiode(1, true)", x.setBypassDiode(1, true), 1);
        due("moduleVoltage(1, 801)", x.moduleVoltage(1, 801), -7);
        due("setBypassDiode(2, true)", x.setBypassDiode(2, true), M);
        due("setBypassDiode(-1, false)", x.setBypassDiode(-1, false), M);
    }

    private static void setDiodeDrop() {
        promise = 8;
        PvArray x = array(1, 1);
        due("setDiodeDrop(20)", x.setDiodeDrop(20), 7);
        due("moduleVoltage(0, 801)", x.moduleVoltage(0, 801), -20);
        due("moduleVoltage(1, 1200)", x.moduleVoltage(1, 1200), -20);
        due("setDiodeDrop(21)", x.setDiodeDrop(21), BAD);
        due("setDiodeDrop(-1)", x.setDiodeDrop(-1), BAD);
        due("setDiodeDrop(LEAST)", x.setDiodeDrop(LEAST), BAD);
        due("setDiodeDrop(0)", x.setDiodeDrop(0), 20);
        due("moduleVoltage(0, 801)", x.moduleVoltage(0, 801), 0);
        due("addModule(0, 100, 100)", x.addModule(0, 100, 100), 2);
        due("setDiodeDrop(5)", x.setDiodeDrop(5), 0);
        due("moduleVoltage(2, 101)", x.moduleVoltage(2, 101), -5);
    }

    private static void moveModule() {
        promise = 9;
        PvArray x = array(3, 2, 0);
        due("moveModule(1, 1)", x.moveModule(1, 1), 2);
        layout(x, 0, 0, 2);
        layout(x, 1, 3, 4, 1);
        due("moveModule(0, 0) within its string", x.moveModule(0, 0), 1);
        layout(x, 0, 2, 0);
        due("moveModule(0, 0) at the end", x.moveModule(0, 0), 1);
        layout(x, 0, 2, 0);
        due("moveModule(3, 2) to an empty string", x.moveModule(3, 2), 0);
        layout(x, 1, 4, 1);
        layout(x, 2, 3);
        due("moveModule(3, 0)", x.moveModule(3, 0), 2);
        layout(x, 2);
        due("moveModule(5, 3)", x.moveModule(5, 3), M);
        due("moveModule(-1, 0)", x.moveModule(-1, 0), M);
        due("moveModule(0, 3)", x.moveModule(0, 3), S);
        due("moveModule(0, -1)", x.moveModule(0, -1), S);
        layout(x, 0, 2, 0, 3);
        moveToFullString();
    }

    private static void moveToFullString() {
        PvArray x = array(12, 1);
        due("moveModule(12, 0) to a full string", x.moveModule(12, 0), FULL);
        layout(x, 1, 12);
        due("moveModule(0, 0) within a full string", x.moveModule(0, 0), 11);
        layout(x, 0, 1, 2, 3, 4, 5, 6, 7, 8, 9, 10, 11, 0);
        due("moveModule(6, 1)", x.moveModule(6, 1), 1);
        layout(x, 0, 1, 2, 3, 4, 5, 7, 8, 9, 10, 11, 0);
        due("moveModule(12, 0)", x.moveModule(12, 0), 11);
        layout(x, 0, 1, 2, 3, 4, 5, 7, 8, 9, 10, 11, 0, 12);
        layout(x, 1, 6);
    }

    private static void swapModules() {
        promise = 10;
        PvArray x = array(3, 2);
        x.setIrradiance(0, 500);
        due("swapModules(0, 4)", x.swapModules(0, 4), 1);
        layout(x, 0, 4, 1, 2);
        layout(x, 1, 3, 0);
        due("photocurrent(0)", x.photocurrent(0), 400);
        due("photocurrent(4)", x.photocurrent(4), 800);
        due("swapModules(2, 4) in one string", x.swapModules(2, 4), 0);
        layout(x, 0, 2, 1, 4);
        due("swapModules(1, 1)", x.swapModules(1, 1), 0);
        layout(x, 0, 2, 1, 4);
        due("swapModules(5, 0)", x.swapModules(5, 0), M);
        due("swapModules(0, 5)", x.swapModules(0, 5), M);
        due("swapModules(-1, 0)", x.swapModules(-1, 0), M);
        due("swapModules(0, LEAST)", x.swapModules(0, LEAST), M);
        layout(x, 0, 2, 1, 4);
        layout(x, 1, 3, 0);
    }

    private static void stringOf() {
        promise = 11;
        PvArray x = array(1, 0, 2);
        due("stringOf(0)", x.stringOf(0), 0);
        due("stringOf(1)", x.stringOf(1), 2);
        due("stringOf(2)", x.stringOf(2), 2);
        due("stringOf(3)", x.stringOf(3), M);
        due("stringOf(-1)", x.stringOf(-1), M);
        due("stringOf(LEAST)", x.stringOf(LEAST), M);
        due("stringOf(MOST)", x.stringOf(MOST), M);
        x.moveModule(1, 1);
        due("stringOf(1)", x.stringOf(1), 1);
    }

    private static void moduleAt() {
        promise = 12;
        PvArray x = array(2, 0, 1);
        due("moduleAt(0, 1)", x.moduleAt(0, 1), 1);
        due("moduleAt(2, 0)", x.moduleAt(2, 0), 2);
        due("moduleAt(0, 2)", x.moduleAt(0, 2), NONE);
        due("moduleAt(1, 0)", x.moduleAt(1, 0), NONE);
        due("moduleAt(0, 12)", x.moduleAt(0, 12), NONE);
        due("moduleAt(0, MOST)", x.moduleAt(0, MOST), NONE);
        due("moduleAt(0, -1)", x.moduleAt(0, -1), BAD);
        due("moduleAt(0, LEAST)", x.moduleAt(0, LEAST), BAD);
        due("moduleAt(3, -1)", x.moduleAt(3, -1), S);
        due("moduleAt(-1, 0)", x.moduleAt(-1, 0), S);
    }

    private static void photocurrent() {
        promise = 13;
        PvArray x = array(1);
        x.addModule(0, 999, 10);
        due("photocurrent(0)", x.photocurrent(0), 800);
        due("photocurrent(1)", x.photocurrent(1), 999);
        x.setIrradiance(1, 1200);
        due("photocurrent(1), 1198.8", x.photocurrent(1), 1198);
        x.setIrradiance(1, 1);
        due("photocurrent(1), 0.999", x.photocurrent(1), 0);
        x.setIrradiance(1, 0);
        due("photocurrent(1)", x.photocurrent(1), 0);
        due("photocurrent(2)", x.photocurrent(2), M);
        due("photocurrent(-1)", x.photocurrent(-1), M);
        due("photocurrent(MOST)", x.photocurrent(MOST), M);
    }

    private static void moduleVoltage() {
        promise = 14;
        PvArray x = new PvArray();
        x.addString();
        x.addModule(0, 1000, 300);
        x.setResistance(0, 3001);
        due("moduleVoltage(0, 0)", x.moduleVoltage(0, 0), 300);
        due("moduleVoltage(0, 3), loss 0.9003", x.moduleVoltage(0, 3), 300);
        due("moduleVoltage(0, 4), loss 1.2004", x.moduleVoltage(0, 4), 299);
        due("moduleVoltage(0, 999), loss 299.7999", x.moduleVoltage(0, 999), 1);
        due("moduleVoltage(0, 1000), loss 300.1", x.moduleVoltage(0, 1000), 0);
        due("moduleVoltage(0, 1001)", x.moduleVoltage(0, 1001), -7);
        due("moduleVoltage(0, 1200)", x.moduleVoltage(0, 1200), -7);
        due("moduleVoltage(0, 1201)", x.moduleVoltage(0, 1201), BAD);
        due("moduleVoltage(0, -1)", x.moduleVoltage(0, -1), BAD);
        due("moduleVoltage(0, MOST)", x.moduleVoltage(0, MOST), BAD);
        due("moduleVoltage(1, -1)", x.moduleVoltage(1, -1), M);
        due("moduleVoltage(-1, 0)", x.moduleVoltage(-1, 0), M);
        x.setResistance(0, 5000);
        x.setIrradiance(0, 1200);
        due("moduleVoltage(0, 1200), at least 0", x.moduleVoltage(0, 1200), 0);
        x.addModule(0, 1000, 600);
        x.setIrradiance(1, 1200);
        x.setResistance(1, 5000);
        due("moduleVoltage(1, 1199), loss 599.5", x.moduleVoltage(1, 1199), 1);
        due("moduleVoltage(1, 1200), loss 600", x.moduleVoltage(1, 1200), 0);
        x.setResistance(1, 4987);
        due("moduleVoltage(1, 1199), loss 597.9413", x.moduleVoltage(1, 1199), 3);
        x.setIrradiance(0, 0);
        due("moduleVoltage(0, 0) in the dark", x.moduleVoltage(0, 0), 300);
        due("moduleVoltage(0, 1) in the dark", x.moduleVoltage(0, 1), -7);
        x.setBypassDiode(0, false);
        due("moduleVoltage(0, 0) without diode", x.moduleVoltage(0, 0), 300);
        due("moduleVoltage(0, 1) without diode", x.moduleVoltage(0, 1), NONE);
        due("moduleVoltage(0, 1201) without diode", x.moduleVoltage(0, 1201), BAD);
    }

    private static void modulePeakPower() {
        promise = 15;
        PvArray x = array(1);
        due("modulePeakPower(0)", x.modulePeakPower(0), 320000);
        x.setIrradiance(0, 250);
        due("modulePeakPower(0)", x.modulePeakPower(0), 80000);
        x.setIrradiance(0, 0);
        due("modulePeakPower(0)", x.modulePeakPower(0), 0);
        x.setIrradiance(0, 1000);
        x.setBypassDiode(0, false);
        x.setResistance(0, 5000);
        // The voltage is 400 - i / 2, at the odd i up to the next: 401 times 200 is the greatest.
        due("modulePeakPower(0)", x.modulePeakPower(0), 80200);
        due("modulePeakPower(1)", x.modulePeakPower(1), NO_POWER);
        due("modulePeakPower(-1)", x.modulePeakPower(-1), NO_POWER);
    }

    private static void currentLimit() {
        promise = 16;
        PvArray x = array(3, 0);
        x.setIrradiance(0, 300);
        x.setIrradiance(1, 1100);
        due("currentLimit(0)", x.currentLimit(0), 880);
        due("currentLimit(1) of an empty string", x.currentLimit(1), 0);
        x.setBypassDiode(1, false);
        due("currentLimit(0)", x.currentLimit(0), 880);
        x.setBypassDiode(2, false);
        due("currentLimit(0)", x.currentLimit(0), 800);
        x.setBypassDiode(0, false);
        due("currentLimit(0)", x.currentLimit(0), 240);
        x.setIrradiance(0, 0);
        due("currentLimit(0)", x.currentLimit(0), 0);
        due("currentLimit(2)", x.currentLimit(2), S);
        due("currentLimit(-1)", x.currentLimit(-1), S);
        due("currentLimit(LEAST)", x.currentLimit(LEAST), S);
        PvArray y = new PvArray();
        y.addString();
        y.addModule(0, 1000, 1);
        y.setIrradiance(0, 1200);
        due("currentLimit(0) at the most", y.currentLimit(0), 1200);
    }

    private static void stringVoltage() {
        promise = 17;
        PvArray x = array(2, 0);
        x.addModule(0, 400, 500);
        x.setResistance(0, 1000);
        due("stringVoltage(0, 0)", x.stringVoltage(0, 0), 1300);
        due("stringVoltage(0, 400)", x.stringVoltage(0, 400), 1260);
        due("stringVoltage(0, 401)", x.stringVoltage(0, 401), 753);
        due("stringVoltage(0, 800)", x.stringVoltage(0, 800), 713);
        due("stringVoltage(0, 801)", x.stringVoltage(0, 801), BAD);
        due("stringVoltage(0, -1)", x.stringVoltage(0, -1), BAD);
        due("stringVoltage(1, 0)", x.stringVoltage(1, 0), 0);
        due("stringVoltage(1, 1)", x.stringVoltage(1, 1), BAD);
        due("stringVoltage(2, -1)", x.stringVoltage(2, -1), S);
        due("stringVoltage(-1, 0)", x.stringVoltage(-1, 0), S);
        x.setBypassDiode(2, false);
        due("stringVoltage(0, 400)", x.stringVoltage(0, 400), 1260);
        due("stringVoltage(0, 401)", x.stringVoltage(0, 401), BAD);
    }

    /** One weak bright module among eleven dark ones: below 0 from current 1 on. */
    private static PvArray negative() {
        PvArray x = array(11);
        x.shade(0, 10, 100);
        x.addModule(0, 100, 50);
        return x;
    }

    /** Voltages 2 2 1 1 0 and powers 0 2 2 3 0: the powers at 1 and 2 are alike. */
    private static PvArray level() {
        PvArray x = new PvArray();
        x.addString();
        x.addModule(0, 4, 2);
        x.setResistance(0, 5000);
        return x;
    }

    private static void stringPower() {
        promise = 18;
        PvArray x = array(2, 0);
        x.setIrradiance(1, 500);
        due("stringPower(0, 0)", x.stringPower(0, 0), 0);
        due("stringPower(0, 400)", x.stringPower(0, 400), 320000);
        due("stringPower(0, 401)", x.stringPower(0, 401), 401 * 393);
        due("stringPower(0, 800)", x.stringPower(0, 800), 314400);
        due("stringPower(0, 801)", x.stringPower(0, 801), NO_POWER);
        due("stringPower(0, -1)", x.stringPower(0, -1), NO_POWER);
        due("stringPower(1, 0)", x.stringPower(1, 0), 0);
        due("stringPower(1, 1)", x.stringPower(1, 1), NO_POWER);
        due("stringPower(2, 0)", x.stringPower(2, 0), NO_POWER);
        due("stringPower(-1, 0)", x.stringPower(-1, 0), NO_POWER);
        due("stringPower(0, 100) below 0", negative().stringPower(0, 100), -2700);
    }

    private static void bypassedModules() {
        promise = 19;
        PvArray x = array(3, 0);
        x.setIrradiance(0, 500);
        x.setIrradiance(2, 250);
        due("bypassedModules(0, 0)", x.bypassedModules(0, 0), 0);
        due("bypassedModules(0, 200)", x.bypassedModules(0, 200), 0);
        due("bypassedModules(0, 201)", x.bypassedModules(0, 201), 4);
        due("bypassedModules(0, 400)", x.bypassedModules(0, 400), 4);
        due("bypassedModules(0, 401)", x.bypassedModules(0, 401), 5);
        due("bypassedModules(0, 800)", x.bypassedModules(0, 800), 5);
        due("bypassedModules(0, 801)", x.bypassedModules(0, 801), BAD);
        due("bypassedModules(0, -1)", x.bypassedModules(0, -1), BAD);
        due("bypassedModules(1, 0)", x.bypassedModules(1, 0), 0);
        due("bypassedModules(2, -1)", x.bypassedModules(2, -1), S);
        due("bypassedModules(-1, 0)", x.bypassedModules(-1, 0), S);
        x.swapModules(0, 1);
        due("bypassedModules(0, 401) after an exchange", x.bypassedModules(0, 401), 6);
        due("bypassedModules(0, 100) of 12", negative().bypassedModules(0, 100), 0x7ff);
    }

    private static void peakCount() {
        promise = 20;
        PvArray x = array(2, 0);
        due("peakCount(0)", x.peakCount(0), 1);
        x.setIrradiance(1, 500);
        due("peakCount(0)", x.peakCount(0), 2);
        due("peakCount(1)", x.peakCount(1), 0);
        due("peakCount(2)", x.peakCount(2), S);
        due("peakCount(-1)", x.peakCount(-1), S);
        due("peakCount(0) below 0", negative().peakCount(0), 0);
        PvArray y = level();
        due("peakCount(0) with a level, which is no peak", y.peakCount(0), 1);
        due("peakCurrent(0, 0) with a level", y.peakCurrent(0, 0), 3);
        y.setIrradiance(0, 500);
        // The powers end with 0 2 2: no current is a peak.
        due("peakCount(0) with a level at the end", y.peakCount(0), 0);
        y.setIrradiance(0, 250);
        due("peakCount(0) at a limit of 1", y.peakCount(0), 1);
        due("peakCurrent(0, 0) at a limit of 1", y.peakCurrent(0, 0), 1);
        y.setIrradiance(0, 0);
        due("peakCount(0) at a limit of 0", y.peakCount(0), 0);
    }

    private static void peakCurrent() {
        promise = 21;
        PvArray x = array(3, 0);
        x.setIrradiance(0, 750);
        x.setIrradiance(1, 250);
        due("peakCurrent(0, 0)", x.peakCurrent(0, 0), 200);
        due("peakCurrent(0, 1)", x.peakCurrent(0, 1), 600);
        due("peakCurrent(0, 2)", x.peakCurrent(0, 2), 800);
        due("peakCurrent(0, 3)", x.peakCurrent(0, 3), NONE);
        due("peakCurrent(0, MOST)", x.peakCurrent(0, MOST), NONE);
        due("peakCurrent(0, -1)", x.peakCurrent(0, -1), BAD);
        due("peakCurrent(0, LEAST)", x.peakCurrent(0, LEAST), BAD);
        due("peakCurrent(1, 0)", x.peakCurrent(1, 0), NONE);
        due("peakCurrent(2, -1)", x.peakCurrent(2, -1), S);
        due("peakCurrent(-1, 0)", x.peakCurrent(-1, 0), S);
    }

    private static void bestCurrent() {
        promise = 22;
        PvArray x = array(2, 0);
        due("bestCurrent(0)", x.bestCurrent(0), 800);
        x.setIrradiance(1, 500);
        due("bestCurrent(0)", x.bestCurrent(0), 400);
        x.setDiodeDrop(0);
        due("bestCurrent(0), 400 and 800 alike", x.bestCurrent(0), 400);
        x.setIrradiance(1, 499);
        due("bestCurrent(0), 399 and 800", x.bestCurrent(0), 800);
        due("bestCurrent(1)", x.bestCurrent(1), 0);
        due("bestCurrent(2)", x.bestCurrent(2), S);
        due("bestCurrent(-1)", x.bestCurrent(-1), S);
        due("bestCurrent(0) below 0", negative().bestCurrent(0), 0);
        PvArray y = new PvArray();
        y.addString();
        y.addModule(0, 2, 2);
        y.setResistance(0, 5000);
        due("bestCurrent(0), powers 0 2 2", y.bestCurrent(0), 1);
        due("bestCurrent(0), powers 0 2 2 3 0", level().bestCurrent(0), 3);
        PvArray z = new PvArray();
        z.addString();
        z.addModule(0, 777, 1);
        due("bestCurrent(0) at a voltage of 1", z.bestCurrent(0), 777);
    }

    private static void bestPower() {
        promise = 23;
        PvArray x = array(2, 0);
        due("bestPower(0)", x.bestPower(0), 640000);
        x.setIrradiance(1, 500);
        due("bestPower(0)", x.bestPower(0), 320000);
        x.setIrradiance(1, 0);
        due("bestPower(0)", x.bestPower(0), 800 * 393);
        x.setIrradiance(0, 0);
        due("bestPower(0)", x.bestPower(0), 0);
        due("bestPower(1)", x.bestPower(1), 0);
        due("bestPower(2)", x.bestPower(2), NO_POWER);
        due("bestPower(-1)", x.bestPower(-1), NO_POWER);
        due("bestPower(0) below 0", negative().bestPower(0), 0);
        PvArray y = new PvArray();
        y.addString();
        for (int p = 0; p < 12; p++) {
            y.addModule(0, 1000, 600);
            y.setIrradiance(p, 1200);
        }
        due("bestPower(0) at the most", y.bestPower(0), 1200L * 7200);
    }

    private static void perturbAndObserve() {
        promise = 24;
        PvArray x = array(2, 0);
        x.setIrradiance(1, 500);
        due("perturbAndObserve(0, 70, 1, 0)", x.perturbAndObserve(0, 70, 1, 0), 70);
        due("perturbAndObserve(0, 70, 1, 1)", x.perturbAndObserve(0, 70, 1, 1), 71);
        due("perturbAndObserve(0, 0, 60, 6)", x.perturbAndObserve(0, 0, 60, 6), 360);
        due("perturbAndObserve(0, 0, 60, 200), 420 and 300 are less", x.perturbAndObserve(0, 0, 60, 200), 360);
        due("perturbAndObserve(0, 750, 100, 1), held at the limit", x.perturbAndObserve(0, 750, 100, 1), 800);
        due("perturbAndObserve(0, 800, 100, 200)", x.perturbAndObserve(0, 800, 100, 200), 800);
        due("perturbAndObserve(0, 401, 1, 3), up", x.perturbAndObserve(0, 401, 1, 3), 404);
        due("perturbAndObserve(0, 450, 50, 200)", x.perturbAndObserve(0, 450, 50, 200), 800);
        // From 395 up to 405 is less, so the third candidate, 385, is less too.
        due("perturbAndObserve(0, 395, 10, 3)", x.perturbAndObserve(0, 395, 10, 3), 395);
        due("perturbAndObserve(0, -1, 1, 1)", x.perturbAndObserve(0, -1, 1, 1), BAD);
        due("perturbAndObserve(0, 801, 1, 1)", x.perturbAndObserve(0, 801, 1, 1), BAD);
        due("perturbAndObserve(0, 0, 0, 1)", x.perturbAndObserve(0, 0, 0, 1), BAD);
        due("perturbAndObserve(0, 0, 101, 1)", x.perturbAndObserve(0, 0, 101, 1), BAD);
        due("perturbAndObserve(0, 0, 1, -1)", x.perturbAndObserve(0, 0, 1, -1), BAD);
        due("perturbAndObserve(0, 0, 1, 201)", x.perturbAndObserve(0, 0, 1, 201), BAD);
        due("perturbAndObserve(0, MOST, MOST, MOST)", x.perturbAndObserve(0, MOST, MOST, MOST), BAD);
        due("perturbAndObserve(1, 0, 1, 200)", x.perturbAndObserve(1, 0, 1, 200), 0);
        due("perturbAndObserve(1, 1, 1, 200)", x.perturbAndObserve(1, 1, 1, 200), BAD);
        due("perturbAndObserve(2, 0, 0, 0)", x.perturbAndObserve(2, 0, 0, 0), S);
        due("perturbAndObserve(-1, 0, 1, 1)", x.perturbAndObserve(-1, 0, 1, 1), S);
        perturbDown();
    }

    private static void perturbDown() {
        PvArray x = negative();
        // Powers are -27 times the current: up fails, then every step goes down, at last to 0.
        due("perturbAndObserve(0, 50, 20, 1)", x.perturbAndObserve(0, 50, 20, 1), 50);
        due("perturbAndObserve(0, 50, 20, 2)", x.perturbAndObserve(0, 50, 20, 2), 30);
        due("perturbAndObserve(0, 50, 20, 3)", x.perturbAndObserve(0, 50, 20, 3), 10);
        due("perturbAndObserve(0, 50, 20, 4), held at 0", x.perturbAndObserve(0, 50, 20, 4), 0);
        due("perturbAndObserve(0, 50, 20, 200)", x.perturbAndObserve(0, 50, 20, 200), 0);
        PvArray y = level();
        due("perturbAndObserve(0, 1, 1, 1), alike is not greater", y.perturbAndObserve(0, 1, 1, 1), 1);
        due("perturbAndObserve(0, 1, 1, 200)", y.perturbAndObserve(0, 1, 1, 200), 1);
        due("perturbAndObserve(0, 2, 1, 200)", y.perturbAndObserve(0, 2, 1, 200), 3);
    }

    private static void scanAndClimb() {
        promise = 25;
        PvArray x = array(2, 0);
        x.setIrradiance(1, 500);
        due("scanAndClimb(0, 1)", x.scanAndClimb(0, 1), 400);
        due("scanAndClimb(0, 400), 400 scanned", x.scanAndClimb(0, 400), 400);
        due("scanAndClimb(0, 500), from 500 up", x.scanAndClimb(0, 500), 800);
        due("scanAndClimb(0, 300), from 300 up", x.scanAndClimb(0, 300), 400);
        due("scanAndClimb(0, 0)", x.scanAndClimb(0, 0), BAD);
        due("scanAndClimb(0, 501)", x.scanAndClimb(0, 501), BAD);
        due("scanAndClimb(0, -5)", x.scanAndClimb(0, -5), BAD);
        due("scanAndClimb(0, LEAST)", x.scanAndClimb(0, LEAST), BAD);
        due("scanAndClimb(1, 500)", x.scanAndClimb(1, 500), 0);
        due("scanAndClimb(2, 0)", x.scanAndClimb(2, 0), S);
        due("scanAndClimb(-1, 1)", x.scanAndClimb(-1, 1), S);
        x.setDiodeDrop(0);
        due("scanAndClimb(0, 400), 400 and 800 alike", x.scanAndClimb(0, 400), 400);
        due("scanAndClimb(0, 267), 534 and 267 alike", x.scanAndClimb(0, 267), 400);
        due("scanAndClimb(0, 160), 800 and 320: the limit is scanned", x.scanAndClimb(0, 160), 800);
        due("scanAndClimb(0, 161), 322 and 644 alike: the lower", x.scanAndClimb(0, 161), 400);
        due("scanAndClimb(0, 210), 630 and 210: up", x.scanAndClimb(0, 210), 800);
        due("scanAndClimb(0, 500) from 500", x.scanAndClimb(0, 500), 800);
        due("scanAndClimb(0, 1) below 0", negative().scanAndClimb(0, 1), 0);
        climbDown();
    }

    private static void climbDown() {
        PvArray x = array(1);
        x.setResistance(0, 5000);
        // The voltage is 400 - i / 2, so 500 and 501 have the same, and 499 and 502 less power.
        due("scanAndClimb(0, 500)", x.scanAndClimb(0, 500), 501);
        due("scanAndClimb(0, 499)", x.scanAndClimb(0, 499), 499);
        x.setResistance(0, 0);
        x.setIrradiance(0, 1);
        due("scanAndClimb(0, 1) in the dark", x.scanAndClimb(0, 1), 0);
        x.setIrradiance(0, 500);
        x.addModule(0, 401, 400);
        due("scanAndClimb(0, 500), from 0 to the first peak", x.scanAndClimb(0, 500), 400);
        due("scanAndClimb(0, 401), from the limit down", x.scanAndClimb(0, 401), 400);
        PvArray y = new PvArray();
        y.addString();
        y.addModule(0, 1000, 100);
        y.addModule(0, 1000, 100);
        y.setResistance(0, 5000);
        y.setResistance(1, 4999);
        // From 2 to 200 the voltage is 201 - i, so 100 and 101 have the greatest power, 10100.
        due("scanAndClimb(0, 150), down to 101", y.scanAndClimb(0, 150), 101);
        due("scanAndClimb(0, 90), up to 100", y.scanAndClimb(0, 90), 100);
        fineScan();
    }

    /** A module without diode ends the curve at 100, though the power would rise beyond it. */
    private static void endOfCurve() {
        PvArray x = new PvArray();
        x.addString();
        x.addModule(0, 100, 1);
        x.addModule(0, 800, 400);
        x.setResistance(0, 5000);
        x.setBypassDiode(0, false);
        x.setDiodeDrop(0);
        promise = 20;
        due("peakCount(0) at the end of the curve", x.peakCount(0), 1);
        promise = 21;
        due("peakCurrent(0, 0) at the end of the curve", x.peakCurrent(0, 0), 100);
        promise = 22;
        due("bestCurrent(0) at the end of the curve", x.bestCurrent(0), 100);
        promise = 24;
        due("perturbAndObserve(0, 95, 7, 1) at the end of the curve", x.perturbAndObserve(0, 95, 7, 1), 100);
        due("perturbAndObserve(0, 95, 7, 9) at the end of the curve", x.perturbAndObserve(0, 95, 7, 9), 100);
        promise = 25;
        due("scanAndClimb(0, 50) at the end of the curve", x.scanAndClimb(0, 50), 100);
        due("scanAndClimb(0, 60) at the end of the curve", x.scanAndClimb(0, 60), 100);
        promise = 26;
        due("arrayCurrent(400) at the end of the curve", x.arrayCurrent(400), 100);
    }

    private static void fineScan() {
        PvArray x = new PvArray();
        x.addString();
        x.addModule(0, 796, 401);
        x.addModule(0, 399, 399);
        x.setDiodeDrop(0);
        // 399 times 800 is 319200, 796 times 401 is 319196, and 398 times 800 less than both.
        due("scanAndClimb(0, 1)", x.scanAndClimb(0, 1), 399);
        due("scanAndClimb(0, 2)", x.scanAndClimb(0, 2), 796);
        x.setIrradiance(1, 0);
        x.setIrradiance(0, 500);
        due("scanAndClimb(0, 500), from 0 to the limit", x.scanAndClimb(0, 500), 398);
    }

    private static void arrayCurrent() {
        promise = 26;
        PvArray x = array(2, 1, 0);
        x.setIrradiance(1, 500);
        due("arrayCurrent(0)", x.arrayCurrent(0), 1600);
        due("arrayCurrent(393)", x.arrayCurrent(393), 1600);
        due("arrayCurrent(394)", x.arrayCurrent(394), 1200);
        due("arrayCurrent(400)", x.arrayCurrent(400), 1200);
        due("arrayCurrent(401)", x.arrayCurrent(401), 400);
        due("arrayCurrent(800)", x.arrayCurrent(800), 400);
        due("arrayCurrent(801)", x.arrayCurrent(801), 0);
        due("arrayCurrent(7200)", x.arrayCurrent(7200), 0);
        due("arrayCurrent(7201)", x.arrayCurrent(7201), BAD);
        due("arrayCurrent(-1)", x.arrayCurrent(-1), BAD);
        due("arrayCurrent(MOST)", x.arrayCurrent(MOST), BAD);
        due("arrayCurrent(0) below 0", negative().arrayCurrent(0), 0);
        x.setResistance(2, 1000);
        due("arrayCurrent(390), 800 and 109", x.arrayCurrent(390), 909);
    }

    private static void bestArrayVoltage() {
        promise = 27;
        PvArray x = array(2, 1, 0);
        due("bestArrayVoltage(), 400 and 800 alike", x.bestArrayVoltage(), 400);
        x.setIrradiance(2, 999);
        due("bestArrayVoltage()", x.bestArrayVoltage(), 800);
        x.setIrradiance(2, 1001);
        due("bestArrayVoltage(), the photocurrent is 800 again", x.bestArrayVoltage(), 400);
        x.shade(0, 2, 100);
        due("bestArrayVoltage() in the dark", x.bestArrayVoltage(), 0);
        PvArray y = new PvArray();
        y.addString();
        for (int p = 0; p < 12; p++) {
            y.addModule(0, 1000, 600);
        }
        due("bestArrayVoltage() at the most", y.bestArrayVoltage(), 7200);
    }

    private static void totalBestPower() {
        promise = 28;
        PvArray x = array(2, 1, 0);
        due("totalBestPower()", x.totalBestPower(), 960000);
        x.setIrradiance(1, 500);
        due("totalBestPower()", x.totalBestPower(), 640000);
        x.setBypassDiode(1, false);
        x.setIrradiance(1, 10);
        due("totalBestPower()", x.totalBestPower(), 320000 + 8 * 800);
        due("totalBestPower() below 0", negative().totalBestPower(), 0);
    }

    private static void mismatchLoss() {
        promise = 29;
        PvArray x = array(2, 1, 0);
        due("mismatchLoss()", x.mismatchLoss(), 0);
        x.setIrradiance(1, 500);
        due("mismatchLoss()", x.mismatchLoss(), 160000);
        x.setIrradiance(2, 500);
        due("mismatchLoss() of the string alone", x.mismatchLoss(), 160000);
        x.setBypassDiode(1, false);
        x.setIrradiance(1, 0);
        due("mismatchLoss() behind a dark module", x.mismatchLoss(), 320000);
        due("mismatchLoss() below 0", negative().mismatchLoss(), 5000);
    }

    /** Example 4's array: the two shaded modules stand in different strings. */
    private static PvArray twoShaded() {
        PvArray x = array(2, 2);
        x.setIrradiance(0, 400);
        x.setIrradiance(2, 400);
        return x;
    }

    private static void bestSwapGain() {
        promise = 30;
        PvArray x = twoShaded();
        due("bestSwapGain()", x.bestSwapGain(), 267200);
        layout(x, 0, 0, 1);
        layout(x, 1, 2, 3);
        due("bestSwapGain() again", x.bestSwapGain(), 267200);
        due("totalBestPower()", x.totalBestPower(), 628800);
        x.swapModules(0, 3);
        due("bestSwapGain() after it", x.bestSwapGain(), 0);
        due("totalBestPower() after it", x.totalBestPower(), 896000);
        PvArray y = array(3);
        y.setIrradiance(1, 500);
        due("bestSwapGain() in one string", y.bestSwapGain(), 0);
        due("bestSwapGain() of equal modules", array(2, 2, 2).bestSwapGain(), 0);
        due("bestSwapGain() with an empty string", array(0, 4).bestSwapGain(), 0);
    }

    private static void bestSwapLower() {
        promise = 31;
        PvArray x = twoShaded();
        due("bestSwapLower(), 0 with 3 and 1 with 2 alike", x.bestSwapLower(), 0);
        layout(x, 0, 0, 1);
        layout(x, 1, 2, 3);
        x.swapModules(0, 3);
        due("bestSwapLower() when all is sorted", x.bestSwapLower(), NONE);
        PvArray y = array(1, 2, 2);
        y.setIrradiance(1, 400);
        y.setIrradiance(3, 400);
        due("bestSwapLower(), 0 with 1 gains less than 1 with 4", y.bestSwapLower(), 1);
        due("bestSwapHigher()", y.bestSwapHigher(), 4);
        due("bestSwapGain()", y.bestSwapGain(), 267200);
        due("bestSwapLower() of equal modules", array(2, 2).bestSwapLower(), NONE);
        due("bestSwapLower() in one string", array(4).bestSwapLower(), NONE);
    }

    private static void bestSwapHigher() {
        promise = 32;
        PvArray x = twoShaded();
        due("bestSwapHigher(), 0 with 3 and 1 with 2 alike", x.bestSwapHigher(), 3);
        layout(x, 0, 0, 1);
        layout(x, 1, 2, 3);
        x.swapModules(0, 3);
        due("bestSwapHigher() when all is sorted", x.bestSwapHigher(), NONE);
        PvArray y = array(2, 2, 2);
        y.setIrradiance(0, 400);
        y.setIrradiance(2, 400);
        y.setIrradiance(4, 400);
        due("bestSwapLower()", y.bestSwapLower(), 0);
        due("bestSwapHigher(), 0 with 3 and with 5 alike", y.bestSwapHigher(), 3);
        PvArray w = array(2, 3);
        w.setIrradiance(0, 400);
        w.setIrradiance(2, 400);
        due("bestSwapLower() of neighbours", w.bestSwapLower(), 1);
        due("bestSwapHigher() of neighbours", w.bestSwapHigher(), 2);
        // The higher module stands in the lower string: the order is that of the modules.
        PvArray z = twoShaded();
        z.swapModules(0, 2);
        z.swapModules(1, 3);
        layout(z, 0, 2, 3);
        due("bestSwapLower() of exchanged strings", z.bestSwapLower(), 0);
        due("bestSwapHigher() of exchanged strings", z.bestSwapHigher(), 3);
        due("bestSwapHigher() of equal modules", array(2, 2).bestSwapHigher(), NONE);
        due("bestSwapHigher() in one string", array(4).bestSwapHigher(), NONE);
    }

    private static void regroup() {
        promise = 33;
        PvArray x = array(2, 0, 3, 1);
        x.setIrradiance(0, 500);
        x.setIrradiance(1, 200);
        x.setIrradiance(4, 500);
        x.setIrradiance(5, 1100);
        // Sorted: 5, then 2 and 3 alike, then 0 and 4 alike, then 1.
        due("regroup()", x.regroup(), 4);
        layout(x, 0, 5, 2);
        layout(x, 1);
        layout(x, 2, 3, 0, 4);
        layout(x, 3, 1);
        due("regroup() again", x.regroup(), 0);
        x.swapModules(0, 4);
        due("regroup() inside a string", x.regroup(), 0);
        layout(x, 2, 3, 0, 4);
        x.moveModule(5, 1);
        due("regroup() with other sizes", x.regroup(), 2);
        layout(x, 0, 5);
        layout(x, 1, 2);
        layout(x, 2, 3, 0, 4);
        layout(x, 3, 1);
        due("regroup() of an array without modules", array(0, 0).regroup(), 0);
        regroupFull();
    }

    private static void regroupFull() {
        PvArray x = array(12, 12);
        for (int m = 0; m < 24; m++) {
            x.setIrradiance(m, 100 + 10 * m);
        }
        due("regroup() of 24", x.regroup(), 24);
        layout(x, 0, 23, 22, 21, 20, 19, 18, 17, 16, 15, 14, 13, 12);
        layout(x, 1, 11, 10, 9, 8, 7, 6, 5, 4, 3, 2, 1, 0);
        due("setIrradiance(5, 0) after it", x.setIrradiance(5, 0), 150);
    }

    /** With every string and every module there is, no loop may run past the end. */
    private static void fullArray() {
        PvArray x = array(4, 4, 4, 4, 4, 4);
        promise = 26;
        due("arrayCurrent(1600) of 6 strings", x.arrayCurrent(1600), 4800);
        promise = 27;
        due("bestArrayVoltage() of 6 strings", x.bestArrayVoltage(), 1600);
        promise = 28;
        due("totalBestPower() of 6 strings", x.totalBestPower(), 24 * 320000);
        promise = 29;
        due("mismatchLoss() of 24 modules", x.mismatchLoss(), 0);
        x.setIrradiance(0, 0);
        x.setIrradiance(23, 0);
        x.setBypassDiode(0, false);
        x.setBypassDiode(23, false);
        promise = 30;
        due("bestSwapGain() of 24 modules", x.bestSwapGain(), 4 * 320000);
        promise = 31;
        due("bestSwapLower() of 24 modules", x.bestSwapLower(), 0);
        promise = 32;
        due("bestSwapHigher() of 24 modules", x.bestSwapHigher(), 20);
        promise = 33;
        due("regroup() of 24 modules", x.regroup(), 6);
        due("stringOf(0)", x.stringOf(0), 5);
        due("stringOf(4)", x.stringOf(4), 0);
        due("stringOf(20)", x.stringOf(20), 4);
    }

    public static void main(String[] args) {
        constants();
        newObject();
        addString();
        addModule();
        setIrradiance();
        shade();
        setResistance();
        setBypassDiode();
        setDiodeDrop();
        moveModule();
        swapModules();
        stringOf();
        moduleAt();
        photocurrent();
        moduleVoltage();
        modulePeakPower();
        currentLimit();
        stringVoltage();
        stringPower();
        bypassedModules();
        peakCount();
        peakCurrent();
        bestCurrent();
        bestPower();
        perturbAndObserve();
        scanAndClimb();
        arrayCurrent();
        bestArrayVoltage();
        totalBestPower();
        mismatchLoss();
        bestSwapGain();
        bestSwapLower();
        bestSwapHigher();
        regroup();
        endOfCurve();
        fullArray();
        System.out.println(wrong == 0 ? "all answers are as due" : wrong + " answers are not as due");
        if (wrong != 0) {
            System.exit(1);
        }
    }
}
