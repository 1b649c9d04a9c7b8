/** Promises 8 to 12: compile, isCompiled, test, cost, worst. */
public final class CompilingTest {
    private static final int[] NO_FILTERS = {-1, 4, Integer.MIN_VALUE, Integer.MAX_VALUE};

    public static void main(String[] args) {
        compileKeepsTheBound();
        compileAboveTheBoundKeepsWhatStood();
        compileAboveTheBoundIsNoCompiling();
        compileOfTheGreatestWorstPath();
        compileRefuses();
        changesAreSeen();
        eachKindOfChangeTakenBackCounts();
        changesThatNoCallCanTellCount();
        settingWhatIsSetIsNoChange();
        whatIsNoChange();
        evenTree();
        treesOfWeight();
        treesOfWeightBelow();
        pathsOfTests();
        pathsOfGreaterNumbers();
        testsOfAnEmptyTree();
        rulesOutOfReachHaveNoTest();
        costs();
        costsOfTheGreatestWeights();
        worstOfHalves();
        worstAtTheEdgeOfTheHalves();
        worstEndsAtMaskZero();
        worstIsNotOfTheDeepestNumber();
        worstOfNumbersOnly();
        askingRefuses();
        Due.end();
    }

    private static SyscallFilter withNumbers(int... numbers) {
        SyscallFilter x = new SyscallFilter();
        for (int number : numbers) {
            x.add(0, number, 0, 0L, 0L, 1);
        }
        return x;
    }

    private static void compileKeepsTheBound() {
        SyscallFilter empty = new SyscallFilter();
        Due.same("compile(0) of nothing", empty.compile(0), 0);
        Due.yes("isCompiled of nothing", empty.isCompiled());
        SyscallFilter x = withNumbers(1, 2, 3);
        x.add(3, 9, 0, -1L, -1L, 1);
        Due.same("compile below the worst path", x.compile(4), -1);
        Due.no("isCompiled below the worst path", x.isCompiled());
        Due.illegalState("cost below the worst path", () -> x.cost(0));
        Due.same("compile at the worst path", x.compile(5), 5);
        Due.yes("isCompiled at the worst path", x.isCompiled());
        Due.same("compile once more", x.compile(1000), 5);
    }

    private static void compileAboveTheBoundKeepsWhatStood() {
        SyscallFilter x = withNumbers(1, 2, 3);
        x.compile(1000);
        Due.same("compile(0)", x.compile(0), -1);
        Due.yes("isCompiled as before", x.isCompiled());
        Due.same("test as before", x.test(0, 1), 2);
        Due.same("judge as before", x.judge(3, 0L, 0L), 1);
        x.setFrequency(1, 1000);
        Due.same("compile(1)", x.compile(1), -1);
        Due.no("isCompiled after a change", x.isCompiled());
        Due.illegalState("test after a change", () -> x.test(0, 1));
        Due.same("compile(3)", x.compile(3), 3);
        Due.same("test after compiling", x.test(0, 1), 1);
    }

    private static void compileAboveTheBoundIsNoCompiling() {
        SyscallFilter x = withNumbers(1, 2, 3);
        x.compile(1000);
        x.setDefault(0, 5);
        Due.same("compile above the bound", x.compile(1), -1);
        Due.no("isCompiled above the bound", x.isCompiled());
        x.setDefault(0, 0);
        Due.no("isCompiled, the change is taken back", x.isCompiled());
        Due.illegalState("worst, the change is taken back", () -> x.worst(0));
        Due.illegalState("judge, the change is taken back", () -> x.judge(1, 0L, 0L));
        Due.illegalState("path, the change is taken back", () -> x.path(1, 0L, 0L));
        Due.same("compile at the bound", x.compile(2), 2);
        Due.same("compile one below, nothing changed", x.compile(1), -1);
        Due.yes("isCompiled still", x.isCompiled());
        Due.same("worst still", x.worst(0), 2);
        Due.same("cost still", x.cost(0), 5);
        Due.same("path still", x.path(3, 0L, 0L), 2);
    }

    private static void compileOfTheGreatestWorstPath() {
        SyscallFilter x = new SyscallFilter();
        for (int filter = 0; filter < 4; filter++) {
            for (int rule = 0; rule < 10; rule++) {
                x.add(filter, 31, rule % 2, -1L, (long) rule << 32, 1);
            }
        }
        Due.same("compile one below", x.compile(83), -1);
        Due.no("isCompiled one below", x.isCompiled());
        Due.same("compile at the worst path", x.compile(84), 84);
        for (int filter = 0; filter < 4; filter++) {
            Due.same("worst of ten rules", x.worst(filter), 21);
        }
        Due.same("a path as long as that", x.path(31, 0x1000000000L, 0x1000000000L), 84);
        Due.same("no lower half matches", x.path(31, 1L, 1L), 44);
    }

    private static void compileRefuses() {
        SyscallFilter stood = withNumbers(1, 2, 3);
        stood.compile(1000);
        Due.illegalArgument("compile(-1), compiled before", () -> stood.compile(-1));
        Due.illegalArgument("compile(1001), compiled before", () -> stood.compile(1001));
        Due.yes("isCompiled after a refused bound", stood.isCompiled());
        Due.same("test after a refused bound", stood.test(0, 1), 2);
        SyscallFilter x = new SyscallFilter();
        for (int bound : new int[] {-1, 1001, Integer.MIN_VALUE, Integer.MAX_VALUE}) {
            Due.illegalArgument("compile(" + bound + ")", () -> x.compile(bound));
        }
        Due.no("isCompiled after refused compiling", x.isCompiled());
    }

    private static void changesAreSeen() {
        SyscallFilter x = withNumbers(1);
        x.compile(1000);
        x.add(1, 1, 0, 0L, 1L, 1);
        Due.no("isCompiled after add", x.isCompiled());
        x.remove(1, 0);
        Due.no("isCompiled after add is taken back", x.isCompiled());
        x.compile(1000);
        x.remove(0, 0);
        Due.no("isCompiled after remove", x.isCompiled());
        x.compile(1000);
        x.setDefault(2, 1);
        Due.no("isCompiled after setDefault", x.isCompiled());
        x.setDefault(2, 0);
        Due.no("isCompiled after setDefault is taken back", x.isCompiled());
        x.compile(1000);
        x.setFrequency(30, 1);
        Due.no("isCompiled after setFrequency", x.isCompiled());
        x.setFrequency(30, 0);
        Due.no("isCompiled after setFrequency is taken back", x.isCompiled());
        x.compile(1000);
        Due.yes("isCompiled after compile", x.isCompiled());
    }

    private static void eachKindOfChangeTakenBackCounts() {
        SyscallFilter x = withNumbers(1);
        x.compile(1000);
        x.remove(0, 0);
        x.add(0, 1, 0, 0L, 0L, 1);
        Due.no("isCompiled after remove is taken back", x.isCompiled());
        x.compile(1000);
        x.add(0, 1, 0, 0L, 0L, 1);
        x.remove(0, 0);
        Due.no("isCompiled after the like was removed", x.isCompiled());
        Due.illegalState("cost after the like was removed", () -> x.cost(0));
        Due.same("compile anew", x.compile(1000), 1);
        Due.yes("isCompiled anew", x.isCompiled());
    }

    private static void changesThatNoCallCanTellCount() {
        SyscallFilter x = withNumbers(1);
        x.compile(1000);
        x.add(0, 1, 0, 3L, 1L, 1);
        Due.no("isCompiled after a rule out of reach", x.isCompiled());
        x.compile(1000);
        x.remove(0, 1);
        Due.no("isCompiled after it was removed", x.isCompiled());
        x.compile(1000);
        x.setFrequency(31, 1000);
        Due.no("isCompiled after the frequency of no number of a tree", x.isCompiled());
        x.compile(1000);
        x.setDefault(3, 1);
        Due.no("isCompiled after a default that is less strict", x.isCompiled());
    }

    /** Neither asking nor what is refused nor compiling again is a change. */
    private static void whatIsNoChange() {
        SyscallFilter x = withNumbers(1);
        x.compile(1000);
        x.rules(0);
        x.hider(0, 0);
        x.test(0, 1);
        x.cost(0);
        x.worst(0);
        x.judge(1, 0L, 0L);
        x.judgeByRules(1, 0L, 0L);
        x.path(1, 0L, 0L);
        x.actionOf(0, 1, 0L, 0L);
        x.setDefault(0, 0);
        x.setFrequency(1, 0);
        Due.outOfBounds("remove of no rule", () -> x.remove(0, 1));
        Due.illegalArgument("setFrequency too great", () -> x.setFrequency(1, 1001));
        x.compile(0);
        x.compile(1);
        Due.yes("isCompiled after all that is no change", x.isCompiled());
        Due.same("test after all that is no change", x.test(0, 1), 1);
    }

    private static void settingWhatIsSetIsNoChange() {
        SyscallFilter x = withNumbers(1);
        x.setDefault(2, 4);
        x.setFrequency(30, 7);
        x.compile(1000);
        x.setDefault(2, 4);
        x.setFrequency(30, 7);
        Due.yes("isCompiled after setting what is set", x.isCompiled());
    }

    private static void evenTree() {
        SyscallFilter x = withNumbers(8, 3, 31, 0, 12, 20, 25);
        x.compile(1000);
        int[] numbers = {12, 3, 25, 0, 20, 8, 31};
        for (int path = 1; path <= 7; path++) {
            Due.same("test(0, " + path + ")", x.test(0, path), numbers[path - 1]);
        }
        for (int path = 8; path < 64; path++) {
            Due.same("test(0, " + path + ")", x.test(0, path), -1);
        }
        Due.same("test of another filter", x.test(1, 1), -1);
    }

    private static void treesOfWeight() {
        SyscallFilter two = withNumbers(4, 6);
        two.compile(1000);
        Due.same("of two costs the lowest number first", two.test(0, 1), 4);
        Due.same("the greater number next", two.test(0, 3), 6);
        two.setFrequency(6, 1);
        two.compile(1000);
        Due.same("the more frequent number first", two.test(0, 1), 6);
        Due.same("the lesser number next", two.test(0, 2), 4);
        SyscallFilter four = withNumbers(1, 2, 3, 4);
        four.compile(1000);
        Due.same("2 before 3", four.test(0, 1), 2);
        Due.same("3 before 4 below", four.test(0, 3), 3);
        Due.same("4 at the end", four.test(0, 7), 4);
    }

    private static void treesOfWeightBelow() {
        SyscallFilter x = withNumbers(1, 2, 3, 4, 5);
        x.compile(1000);
        Due.same("of 2, 3 and 4 the lowest first", x.test(0, 1), 2);
        x.setFrequency(3, 9);
        x.compile(1000);
        int[] numbers = {3, 1, 4, -1, -1, 2, 5};
        for (int path = 1; path <= 7; path++) {
            Due.same("the lowest first below 3, " + path, x.test(0, path), numbers[path - 1]);
        }
        Due.same("cost of 10, twice 1 and twice 1", x.cost(0), 10 + 2 * 2 + 2 * 3);
        SyscallFilter ten = withNumbers(0, 3, 6, 9, 12, 15, 18, 21, 24, 31);
        ten.compile(1000);
        Due.same("cost of ten even numbers", ten.cost(0), 1 + 2 * 2 + 4 * 3 + 3 * 4);
        Due.same("of ten even numbers the lowest that can be first", ten.test(0, 1), 9);
        Due.same("worst of ten even numbers", ten.worst(0), 4);
    }

    private static void pathsOfTests() {
        SyscallFilter x = withNumbers(0, 1, 2, 3, 4, 5, 6, 7, 8, 9);
        for (int number = 0; number < 10; number++) {
            x.setFrequency(number, number == 9 ? 1000 : (1 << number) - 1);
        }
        x.compile(1000);
        for (int depth = 0; depth < 10; depth++) {
            Due.same("lesser and lesser, " + depth, x.test(0, 1 << depth), 9 - depth);
        }
        Due.same("below the last", x.test(0, 1 << 10), -1);
        Due.same("the highest path", x.test(0, Integer.MAX_VALUE), -1);
        Due.same("the deepest path", x.test(0, 1 << 30), -1);
        Due.same("worst", x.worst(0), 10);
        SyscallFilter mixed = withNumbers(1, 2, 3);
        mixed.setFrequency(1, 10);
        mixed.setFrequency(3, 11);
        mixed.setFrequency(2, 1);
        mixed.compile(1000);
        Due.same("3 first", mixed.test(0, 1), 3);
        Due.same("then the lesser 1", mixed.test(0, 2), 1);
        Due.same("lesser and then greater", mixed.test(0, 6), 2);
        Due.same("greater and then lesser", mixed.test(0, 5), -1);
    }

    private static void pathsOfGreaterNumbers() {
        SyscallFilter x = withNumbers(22, 23, 24, 25, 26, 27, 28, 29, 30, 31);
        for (int number = 22; number < 32; number++) {
            x.setFrequency(number, number == 22 ? 1000 : (1 << 31 - number) - 1);
        }
        x.compile(1000);
        for (int depth = 0; depth < 10; depth++) {
            int path = (2 << depth) - 1;
            Due.same("greater and greater, " + path, x.test(0, path), 22 + depth);
            Due.same("lesser at the end of it, " + path, x.test(0, (1 << depth + 1) + (1 << depth) - 1), -1);
        }
        Due.same("below the last", x.test(0, 2047), -1);
        Due.same("greater to the end of an int", x.test(0, Integer.MAX_VALUE), -1);
        Due.same("path of the last number", x.path(31, 0L, 0L), 10);
        Due.same("path of a lesser number than all", x.path(0, 0L, 0L), 1);
    }

    private static void testsOfAnEmptyTree() {
        SyscallFilter x = withNumbers(7);
        x.compile(1000);
        for (int path : new int[] {1, 2, 3, 1 << 30, Integer.MAX_VALUE}) {
            Due.same("test of an empty tree, " + path, x.test(3, path), -1);
            Due.same("test of one number, " + path, x.test(0, path), path == 1 ? 7 : -1);
        }
        Due.same("cost of an empty tree", x.cost(3), 0);
        Due.same("worst of an empty tree", x.worst(3), 0);
    }

    private static void rulesOutOfReachHaveNoTest() {
        SyscallFilter x = new SyscallFilter();
        x.add(2, 5, 0, 1L, 2L, 1);
        Due.same("compile of what is out of reach", x.compile(0), 0);
        Due.same("test of what is out of reach", x.test(2, 1), -1);
        x.add(2, 6, 0, -1L, 2L, 1);
        x.add(2, 6, 0, -1L, 2L, 3);
        Due.same("compile with one in reach", x.compile(1000), 3);
        Due.same("test of the one in reach", x.test(2, 1), 6);
        Due.same("cost of the one in reach", x.cost(2), 1);
    }

    private static void costs() {
        SyscallFilter x = withNumbers(1, 2, 3);
        x.add(1, 31, 0, 0L, 0L, 1);
        x.setFrequency(31, 1000);
        x.setFrequency(30, 1000);
        x.compile(1000);
        Due.same("cost of an even tree", x.cost(0), 5);
        Due.same("cost of one number", x.cost(1), 1001);
        Due.same("cost of nothing", x.cost(2), 0);
        x.setFrequency(2, 4);
        x.setFrequency(3, 9);
        x.compile(1000);
        Due.same("cost by weights 1, 5, 10", x.cost(0), 10 + 2 * 5 + 3);
    }

    private static void costsOfTheGreatestWeights() {
        SyscallFilter x = withNumbers(0, 1, 2, 3, 4, 5, 6, 7, 30, 31);
        for (int number = 0; number < 32; number++) {
            x.setFrequency(number, 1000);
        }
        x.compile(1000);
        Due.same("cost of ten numbers of weight 1001", x.cost(0), 1001 * 29);
        x.setFrequency(31, 0);
        x.compile(1000);
        Due.same("cost with one of weight 1", x.cost(0), 1001 * 25 + 4);
    }

    private static void worstOfHalves() {
        SyscallFilter x = new SyscallFilter();
        x.add(0, 1, 0, 1L, 1L, 1);
        x.compile(1000);
        Due.same("a lower half", x.worst(0), 2);
        x.add(0, 1, 1, Long.MIN_VALUE, 0L, 1);
        x.compile(1000);
        Due.same("and an upper half", x.worst(0), 3);
        x.add(0, 1, 1, 0x180000000L, 0L, 1);
        x.compile(1000);
        Due.same("and both halves", x.worst(0), 5);
        x.add(0, 1, 1, 0x180000000L, 0L, 1);
        x.add(0, 1, 1, 2L, 1L, 1);
        x.compile(1000);
        Due.same("what is out of reach is not tested", x.worst(0), 5);
        x.add(3, 1, 0, -1L, 0L, 0);
        Due.same("the sum over all filters", x.compile(1000), 8);
        Due.same("worst of another filter", x.worst(3), 3);
        Due.same("worst of an empty filter", x.worst(1), 0);
    }

    private static void worstAtTheEdgeOfTheHalves() {
        long[] masks = {1L, 1L << 31, 1L << 32, 1L << 63, 3L << 31, 0xFFFFFFFFL, ~0xFFFFFFFFL, -1L, 0L};
        int[] tests = {1, 1, 1, 1, 2, 1, 1, 2, 0};
        for (int i = 0; i < masks.length; i++) {
            SyscallFilter x = new SyscallFilter();
            x.add(2, 0, 1, masks[i], 0L, 1);
            Due.same("compile with the mask " + masks[i], x.compile(1000), 1 + tests[i]);
            Due.same("worst with the mask " + masks[i], x.worst(2), 1 + tests[i]);
        }
    }

    private static void worstIsNotOfTheDeepestNumber() {
        SyscallFilter x = withNumbers(1, 3);
        x.add(0, 2, 0, -1L, 5L, 1);
        x.add(0, 2, 1, -1L, 5L, 1);
        x.add(0, 2, 1, 0L, 0L, 1);
        x.add(0, 2, 1, -1L, 6L, 1);
        Due.same("the number tested first has the longest rules", x.compile(1000), 5);
        Due.same("it is tested first", x.test(0, 1), 2);
        Due.same("a call that goes so far", x.path(2, 0x100000005L, 0x100000005L), 5);
        Due.same("a call that stops before", x.path(2, 0L, 0L), 3);
    }

    private static void worstEndsAtMaskZero() {
        SyscallFilter x = new SyscallFilter();
        x.add(0, 1, 0, -1L, 1L, 1);
        x.add(0, 1, 0, 0L, 4L, 1);
        x.add(0, 1, 0, -1L, 2L, 1);
        x.add(0, 1, 1, 0L, 0L, 1);
        x.add(0, 1, 0, -1L, 3L, 1);
        x.compile(1000);
        Due.same("up to the mask 0 in reach", x.worst(0), 5);
    }

    private static void worstOfNumbersOnly() {
        SyscallFilter x = withNumbers(1, 2, 3, 4);
        x.compile(1000);
        Due.same("the deepest number", x.worst(0), 3);
        x.add(0, 2, 0, -1L, 0L, 0);
        x.add(0, 1, 0, -1L, 0L, 0);
        x.compile(1000);
        Due.same("rules behind the mask 0", x.worst(0), 3);
    }

    private static void askingRefuses() {
        SyscallFilter x = new SyscallFilter();
        for (int round = 0; round < 2; round++) {
            for (int filter : NO_FILTERS) {
                Due.illegalArgument("test of filter " + filter, () -> x.test(filter, 1));
                Due.illegalArgument("cost of filter " + filter, () -> x.cost(filter));
                Due.illegalArgument("worst of filter " + filter, () -> x.worst(filter));
            }
            for (int path : new int[] {0, -1, Integer.MIN_VALUE}) {
                Due.illegalArgument("test of path " + path, () -> x.test(0, path));
            }
            if (round == 0) {
                Due.illegalState("test before compiling", () -> x.test(0, 1));
                Due.illegalState("cost before compiling", () -> x.cost(0));
                Due.illegalState("worst before compiling", () -> x.worst(0));
            }
            x.compile(1000);
        }
        Due.same("cost of an empty filter", x.cost(3), 0);
    }
}
