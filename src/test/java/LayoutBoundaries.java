/** The boundary cases that promises 9 to 12 name: the places of the modules. */
public final class LayoutBoundaries {
    private static void moveModule() {
        Runs.run("Promise 9", "Moves a module to the end of a string", """
                array(2, 2, 0)
                moveModule(0, 1) = 2; layout(0) = 1; layout(1) = 2 3 0
                moveModule(3, 2) = 0; layout(1) = 2 0; layout(2) = 3     # the string was empty
                moveModule(1, 2) = 1; layout(0) = empty; layout(2) = 3 1 # the string becomes empty
                moveModule(1, 0) = 0; layout(0) = 1
                """);
        Runs.run("Promise 9", "The modules behind it in its old string move up by one position", """
                array(4, 0)
                moveModule(0, 1) = 0; layout(0) = 1 2 3    # from the first position
                moveModule(2, 1) = 1; layout(0) = 1 3      # from between
                moveModule(3, 1) = 2; layout(0) = 1        # from the last: none is behind it
                layout(1) = 0 2 3
                """);
        Runs.run("Promise 9", "The modules behind it in its old string move up by one position (of a full string)", """
                array(12, 0)
                moveModule(0, 1) = 0; layout(0) = 1 2 3 4 5 6 7 8 9 10 11
                moveModule(11, 1) = 1; layout(0) = 1 2 3 4 5 6 7 8 9 10; layout(1) = 0 11
                """);
        Runs.run("Promise 9", "Moving a module within its own string puts it at the end of that string", """
                array(3, 1)
                moveModule(0, 0) = 2; layout(0) = 1 2 0
                moveModule(2, 0) = 2; layout(0) = 1 0 2
                moveModule(2, 0) = 2 unchanged; layout(0) = 1 0 2     # it is there already
                moveModule(3, 1) = 0 unchanged; layout(1) = 3         # it is alone
                """);
        Runs.run("Promise 9", "module: index of an existing module", """
                array(1, 1)
                moveModule(-1, 0) = NO_SUCH_MODULE; moveModule(0, 0) = 0; moveModule(1, 0) = 1
                moveModule(2, 0) = NO_SUCH_MODULE
                moveModule(LEAST, 0) = NO_SUCH_MODULE; moveModule(MOST, 0) = NO_SUCH_MODULE
                """);
        Runs.run("Promise 9", "string: index of an existing string", """
                array(1, 1)
                moveModule(0, -1) = NO_SUCH_STRING; moveModule(0, 0) = 0; moveModule(0, 1) = 1
                moveModule(0, 2) = NO_SUCH_STRING
                moveModule(0, LEAST) = NO_SUCH_STRING; moveModule(0, MOST) = NO_SUCH_STRING
                """);
        Runs.run("Promise 9", "FULL if the string is not the present string of the module and already has 12 modules", """
                array(11, 3)
                moveModule(11, 0) = 11; moveModule(12, 0) = FULL; layout(1) = 12 13
                layout(0) = 0 1 2 3 4 5 6 7 8 9 10 11
                moveModule(5, 1) = 2; moveModule(12, 0) = 11; moveModule(13, 0) = FULL
                """);
        Runs.run("Promise 9", "FULL if the string is not the present string of the module (it is)", """
                array(12)
                moveModule(0, 0) = 11; layout(0) = 1 2 3 4 5 6 7 8 9 10 11 0
                moveModule(0, 0) = 11 unchanged; moveModule(6, 0) = 11; layout(0) = 1 2 3 4 5 7 8 9 10 11 0 6
                """);
    }

    private static void swapModules() {
        Runs.run("Promise 10", "Exchanges the places (string and position) of two modules", """
                array(3, 2)
                swapModules(0, 4) = 1; layout(0) = 4 1 2; layout(1) = 3 0
                swapModules(3, 2) = 1; layout(0) = 4 1 3; layout(1) = 2 0
                swapModules(4, 3) = 0; layout(0) = 3 1 4    # the first and the last of a string
                swapModules(2, 0) = 0; layout(1) = 0 2
                """);
        Runs.run("Promise 10", "Exchanges the places (string and position) of two modules (of full strings)", """
                array(12, 12)
                swapModules(0, 23) = 1; swapModules(11, 12) = 1
                layout(0) = 23 1 2 3 4 5 6 7 8 9 10 12; layout(1) = 11 13 14 15 16 17 18 19 20 21 22 0
                """);
        Runs.run("Promise 10", "Exchanging a module with itself changes nothing", """
                array(2, 1)
                swapModules(0, 0) = 0 unchanged; swapModules(1, 1) = 0 unchanged; swapModules(2, 2) = 0 unchanged
                layout(0) = 0 1; layout(1) = 2
                """);
        Runs.run("Promise 10", "first: index of an existing module", """
                array(1, 1)
                swapModules(-1, 0) = NO_SUCH_MODULE; swapModules(0, 1) = 1; swapModules(1, 0) = 1
                swapModules(2, 0) = NO_SUCH_MODULE
                swapModules(LEAST, 0) = NO_SUCH_MODULE; swapModules(MOST, 0) = NO_SUCH_MODULE
                """);
        Runs.run("Promise 10", "second: index of an existing module", """
                array(1, 1)
                swapModules(0, -1) = NO_SUCH_MODULE; swapModules(0, 1) = 1; swapModules(1, 0) = 1
                swapModules(0, 2) = NO_SUCH_MODULE; swapModules(2, 2) = NO_SUCH_MODULE
                swapModules(-1, -1) = NO_SUCH_MODULE
                swapModules(0, LEAST) = NO_SUCH_MODULE; swapModules(0, MOST) = NO_SUCH_MODULE
                """);
        Runs.run("Promise 10", "Returns 1 if the modules were in different strings, otherwise 0", """
                array(2, 1)
                swapModules(0, 1) = 0; swapModules(0, 2) = 1; swapModules(1, 2) = 0; swapModules(1, 0) = 1
                """);
    }

    private static void stringOf() {
        Runs.run("Promise 11", "module: index of an existing module", """
                array(1, 0, 1)
                stringOf(-1) = NO_SUCH_MODULE; stringOf(0) = 0; stringOf(1) = 2; stringOf(2) = NO_SUCH_MODULE
                stringOf(LEAST) = NO_SUCH_MODULE; stringOf(MOST) = NO_SUCH_MODULE
                """);
        Runs.run("Promise 11", "module: index of an existing module (all 24)", """
                array(4, 4, 4, 4, 4, 4)
                stringOf(0) = 0; stringOf(3) = 0; stringOf(4) = 1; stringOf(23) = 5; stringOf(24) = NO_SUCH_MODULE
                """);
        Runs.run("Promise 11", "Returns the index of the string of the module", """
                array(1, 0, 1)
                moveModule(0, 1); stringOf(0) = 1; swapModules(0, 1); stringOf(0) = 2; stringOf(1) = 1
                setIrradiance(1, 0); setIrradiance(0, 1); regroup() = 2; stringOf(0) = 1; stringOf(1) = 2
                """);
    }

    private static void moduleAt() {
        Runs.run("Promise 12", "string: index of an existing string", """
                array(1, 1)
                moduleAt(-1, 0) = NO_SUCH_STRING; moduleAt(0, 0) = 0; moduleAt(1, 0) = 1
                moduleAt(2, 0) = NO_SUCH_STRING
                moduleAt(LEAST, 0) = NO_SUCH_STRING; moduleAt(MOST, 0) = NO_SUCH_STRING
                """);
        Runs.run("Promise 12", "BAD_VALUE if position is negative", """
                array(1, 0)
                moduleAt(0, -1) = BAD_VALUE; moduleAt(0, 0) = 0; moduleAt(0, LEAST) = BAD_VALUE
                moduleAt(1, -1) = BAD_VALUE
                """);
        Runs.run("Promise 12", "NONE if the string has no module at the position", """
                array(2, 0, 1)
                moduleAt(0, 1) = 1; moduleAt(0, 2) = NONE; moduleAt(0, 12) = NONE; moduleAt(0, MOST) = NONE
                moduleAt(1, 0) = NONE; moduleAt(2, 1) = NONE
                moveModule(0, 1); moduleAt(0, 0) = 1; moduleAt(0, 1) = NONE    # no trace of it is left
                """);
        Runs.run("Promise 12", "NONE if the string has no module at the position (a full string)", """
                array(12)
                moduleAt(0, 0) = 0; moduleAt(0, 11) = 11; moduleAt(0, 12) = NONE
                """);
    }

    public static void main(String[] args) {
        Runs.begin();
        moveModule();
        swapModules();
        stringOf();
        moduleAt();
        Runs.end();
    }
}
