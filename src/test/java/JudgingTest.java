/** Promises 13 to 16: judge, judgeByRules, path, actionOf. */
public final class JudgingTest {
    private static final int[] NO_NUMBERS = {-1, 32, Integer.MIN_VALUE, Integer.MAX_VALUE};
    private static final int[] NO_FILTERS = {-1, 4, Integer.MIN_VALUE, Integer.MAX_VALUE};

    public static void main(String[] args) {
        firstMatchDecides();
        actionsAtTheEnds();
        bothArguments();
        matchingEveryBit();
        leastAndGreatestNumber();
        strictestOfAllFilters();
        judgingByRulesNeedsNoCompiling();
        judgingSeesChangesWhenCompiled();
        judgingAfterCompilingAboveTheBound();
        judgingWithoutRules();
        judgingPastRulesOutOfReach();
        pathsOfNumbers();
        pathsOfHalves();
        pathsAtTheEdgeOfTheHalves();
        pathsEndAtAMatch();
        pathsOfAllFilters();
        judgingRefuses();
        Due.end();
    }

    /** Both ways of judging must agree whenever all is compiled. */
    private static void judged(String call, SyscallFilter x, int number, long first, long second, int want) {
        Due.same("judge of " + call, x.judge(number, first, second), want);
        Due.same("judgeByRules of " + call, x.judgeByRules(number, first, second), want);
    }

    private static void firstMatchDecides() {
        SyscallFilter x = new SyscallFilter();
        x.setDefault(0, 3);
        x.add(0, 5, 0, 1L, 1L, 2);
        x.add(0, 5, 0, 2L, 2L, 6);
        x.add(0, 5, 0, 0L, 4L, 6);
        x.add(0, 5, 0, 3L, 3L, 6);
        x.compile(1000);
        judged("the first rule", x, 5, 3L, 0L, 2);
        judged("the second rule", x, 5, 2L, 0L, 6);
        judged("the default", x, 5, 4L, 0L, 3);
        judged("another number", x, 4, 3L, 0L, 3);
        judged("the greatest number", x, 31, 3L, 0L, 3);
        Due.same("actionOf the first rule", x.actionOf(0, 5, 3L, 0L), 2);
        Due.same("actionOf the second rule", x.actionOf(0, 5, 2L, 0L), 6);
        Due.same("actionOf the default", x.actionOf(0, 5, 4L, 0L), 3);
        Due.same("actionOf another number", x.actionOf(0, 6, 1L, 0L), 3);
    }

    /** Action 0 of a rule is an action as any other, and less strict than any default but 0. */
    private static void actionsAtTheEnds() {
        SyscallFilter x = new SyscallFilter();
        x.setDefault(0, 6);
        x.add(0, 5, 0, 1L, 1L, 0);
        x.compile(1000);
        judged("a rule less strict than its default", x, 5, 1L, 0L, 0);
        judged("the strictest default", x, 5, 0L, 0L, 6);
        x.setDefault(1, 5);
        x.compile(1000);
        judged("the default of another filter", x, 5, 1L, 0L, 5);
        judged("the stricter of two defaults", x, 5, 0L, 0L, 6);
    }

    private static void matchingEveryBit() {
        for (int bit = 0; bit < 64; bit++) {
            long one = 1L << bit;
            SyscallFilter x = new SyscallFilter();
            x.add(0, 0, 0, one, one, 3);
            x.add(0, 0, 1, one, 0L, 2);
            x.compile(1000);
            judged("bit " + bit + " alone", x, 0, one, one, 3);
            judged("all bits but " + bit, x, 0, ~one, ~one, 2);
            judged("no bit, for " + bit, x, 0, 0L, 0L, 2);
            judged("all bits, for " + bit, x, 0, -1L, -1L, 3);
            judged("bit " + bit + " of the second argument", x, 0, ~one, one, 0);
        }
    }

    private static void leastAndGreatestNumber() {
        SyscallFilter x = new SyscallFilter();
        x.add(0, 0, 0, -1L, Long.MIN_VALUE, 4);
        x.add(0, 31, 1, -1L, Long.MAX_VALUE, 5);
        x.compile(1000);
        judged("the least number", x, 0, Long.MIN_VALUE, Long.MAX_VALUE, 4);
        judged("the greatest number", x, 31, Long.MIN_VALUE, Long.MAX_VALUE, 5);
        judged("a number between", x, 16, Long.MIN_VALUE, Long.MAX_VALUE, 0);
        Due.same("path of the least number", x.path(0, Long.MIN_VALUE, 0L), 3);
        Due.same("path of the greatest number", x.path(31, 0L, Long.MAX_VALUE), 4);
        Due.same("path of a number between", x.path(16, 0L, 0L), 2);
    }

    private static void bothArguments() {
        SyscallFilter x = new SyscallFilter();
        x.add(0, 0, 1, -1L, Long.MIN_VALUE, 4);
        x.add(0, 0, 0, 0xFF00000000L, 0x1200000000L, 5);
        x.compile(1000);
        judged("the second argument", x, 0, 0L, Long.MIN_VALUE, 4);
        judged("the first argument", x, 0, 0x7712FFFFFFFFL, 0L, 5);
        judged("the first argument of another rule", x, 0, Long.MIN_VALUE, 0L, 0);
        judged("the second argument of another rule", x, 0, 0L, 0x1200000000L, 0);
        judged("both", x, 0, 0x1200000000L, Long.MIN_VALUE, 4);
    }

    private static void strictestOfAllFilters() {
        SyscallFilter x = new SyscallFilter();
        x.add(0, 1, 0, 0L, 0L, 1);
        x.add(1, 1, 0, 1L, 1L, 5);
        x.add(2, 1, 0, 3L, 3L, 6);
        x.setDefault(3, 2);
        x.compile(1000);
        judged("the default of a filter", x, 1, 0L, 0L, 2);
        judged("a rule", x, 1, 1L, 0L, 5);
        judged("the strictest rule", x, 1, 3L, 0L, 6);
        judged("a number without rules", x, 2, 3L, 0L, 2);
        Due.same("actionOf one filter", x.actionOf(0, 1, 3L, 0L), 1);
        Due.same("actionOf the filter of defaults", x.actionOf(3, 1, 3L, 0L), 2);
    }

    private static void judgingByRulesNeedsNoCompiling() {
        SyscallFilter x = new SyscallFilter();
        x.add(2, 9, 1, -1L, 7L, 3);
        Due.same("judgeByRules before compiling", x.judgeByRules(9, 0L, 7L), 3);
        Due.same("actionOf before compiling", x.actionOf(2, 9, 0L, 7L), 3);
        Due.no("isCompiled after judging by rules", x.isCompiled());
        Due.illegalState("judge before compiling", () -> x.judge(9, 0L, 7L));
        Due.illegalState("path before compiling", () -> x.path(9, 0L, 7L));
        x.compile(1000);
        x.remove(2, 0);
        Due.same("judgeByRules after a change", x.judgeByRules(9, 0L, 7L), 0);
        Due.illegalState("judge after a change", () -> x.judge(9, 0L, 7L));
        Due.illegalState("path after a change", () -> x.path(9, 0L, 7L));
    }

    private static void judgingSeesChangesWhenCompiled() {
        SyscallFilter x = new SyscallFilter();
        x.add(0, 9, 0, 1L, 1L, 3);
        x.add(0, 9, 0, 0L, 0L, 4);
        x.compile(1000);
        judged("the first rule", x, 9, 1L, 0L, 3);
        x.remove(0, 0);
        x.compile(1000);
        judged("without the first rule", x, 9, 1L, 0L, 4);
        Due.same("path without the first rule", x.path(9, 1L, 0L), 1);
        x.remove(0, 0);
        x.setDefault(0, 1);
        x.compile(1000);
        judged("without rules", x, 9, 1L, 0L, 1);
        Due.same("path without rules", x.path(9, 1L, 0L), 0);
    }

    private static void judgingAfterCompilingAboveTheBound() {
        SyscallFilter x = new SyscallFilter();
        x.add(0, 9, 0, 1L, 1L, 3);
        x.compile(1000);
        Due.same("compile above the bound", x.compile(1), -1);
        judged("as compiled before", x, 9, 1L, 0L, 3);
        Due.same("path as compiled before", x.path(9, 1L, 0L), 2);
        x.add(0, 9, 0, 2L, 2L, 4);
        Due.same("compile above the bound after a change", x.compile(2), -1);
        Due.illegalState("judge above the bound", () -> x.judge(9, 2L, 0L));
        Due.illegalState("path above the bound", () -> x.path(9, 2L, 0L));
        Due.same("judgeByRules above the bound", x.judgeByRules(9, 2L, 0L), 4);
        Due.same("actionOf above the bound", x.actionOf(0, 9, 2L, 0L), 4);
    }

    private static void judgingWithoutRules() {
        SyscallFilter x = new SyscallFilter();
        for (int filter = 0; filter < 4; filter++) {
            x.setDefault(filter, filter + 1);
            x.compile(0);
            judged("defaults up to filter " + filter, x, 31, -1L, -1L, filter + 1);
            Due.same("actionOf filter " + filter, x.actionOf(filter, 0, -1L, -1L), filter + 1);
        }
        x.setDefault(0, 6);
        x.compile(0);
        judged("the strictest default first", x, 0, 0L, 0L, 6);
        Due.same("path without rules", x.path(0, 0L, 0L), 0);
    }

    private static void judgingPastRulesOutOfReach() {
        SyscallFilter x = new SyscallFilter();
        x.add(0, 1, 0, 0L, 1L, 6);
        x.add(0, 1, 0, 1L, 3L, 6);
        x.add(0, 2, 0, 0L, 1L, 6);
        x.add(0, 1, 0, 4L, 4L, 2);
        x.add(0, 1, 0, 5L, 5L, 6);
        x.add(0, 1, 1, 0L, 0L, 3);
        x.add(0, 1, 0, 8L, 8L, 6);
        x.compile(1000);
        judged("the first rule in reach", x, 1, 0xFL, 0L, 2);
        judged("the rule for all calls", x, 1, 9L, 1L, 3);
        judged("a number out of reach", x, 2, 1L, 1L, 0);
        Due.same("path to the first rule in reach", x.path(1, 0xFL, 0L), 2);
        Due.same("path to the rule for all calls", x.path(1, 9L, 1L), 2);
        Due.same("path of a number out of reach", x.path(2, 1L, 1L), 1);
    }

    private static void pathsOfNumbers() {
        SyscallFilter x = new SyscallFilter();
        Due.same("compile of nothing", x.compile(0), 0);
        Due.same("path of nothing", x.path(0, 0L, 0L), 0);
        x.add(0, 10, 0, 0L, 0L, 1);
        x.add(0, 20, 0, 0L, 0L, 1);
        x.compile(1000);
        int[] numbers = {0, 9, 10, 11, 19, 20, 21, 31};
        int[] paths = {1, 1, 1, 2, 2, 2, 2, 2};
        for (int i = 0; i < numbers.length; i++) {
            Due.same("path of number " + numbers[i], x.path(numbers[i], -1L, -1L), paths[i]);
        }
    }

    private static void pathsOfHalves() {
        SyscallFilter x = new SyscallFilter();
        x.add(0, 1, 0, 0x100000001L, 0x100000001L, 1);
        x.add(1, 2, 1, 0x7FL, 0x40L, 1);
        x.add(2, 3, 1, 0x8000000000000000L, 0x8000000000000000L, 1);
        x.add(3, 4, 0, 0x80000000L, 0x80000000L, 1);
        x.compile(1000);
        int rest = 3;
        Due.same("both halves match", x.path(1, 0x100000001L, 0L), rest + 3);
        Due.same("the upper half fails", x.path(1, 1L, 0L), rest + 3);
        Due.same("the lower half fails", x.path(1, 0x100000000L, 0L), rest + 2);
        Due.same("only a lower half matches", x.path(2, 0L, 0x40L), rest + 2);
        Due.same("only a lower half fails", x.path(2, 0L, 0x41L), rest + 2);
        Due.same("only an upper half matches", x.path(3, 0L, -1L), rest + 2);
        Due.same("only an upper half fails", x.path(3, 0L, 0x7FFFFFFFFFFFFFFFL), rest + 2);
        Due.same("the highest bit of the lower half", x.path(4, 0x80000000L, 0L), rest + 2);
        judged("both halves", x, 1, 0x100000001L, 0L, 1);
        judged("a failing upper half", x, 1, 1L, 0L, 0);
        judged("an upper half", x, 3, 0L, Long.MIN_VALUE, 1);
    }

    private static void pathsAtTheEdgeOfTheHalves() {
        long both = 3L << 31;
        SyscallFilter x = new SyscallFilter();
        x.add(0, 1, 0, both, both, 1);
        x.add(1, 2, 0, 1L << 32, 1L << 32, 1);
        x.add(2, 3, 0, 1L << 31, 0L, 1);
        x.compile(1000);
        int rest = 2;
        Due.same("bits 31 and 32 match", x.path(1, both, 0L), rest + 3);
        Due.same("bit 31 alone matches", x.path(1, 1L << 31, 0L), rest + 3);
        Due.same("bit 32 alone matches", x.path(1, 1L << 32, 0L), rest + 2);
        Due.same("no bit matches", x.path(1, 0L, 0L), rest + 2);
        Due.same("the lowest bit of the upper half", x.path(2, 1L << 32, 0L), rest + 2);
        Due.same("the lowest bit of the upper half fails", x.path(2, ~(1L << 32), 0L), rest + 2);
        Due.same("the highest bit of the lower half", x.path(3, ~(1L << 31), 0L), rest + 2);
        Due.same("the highest bit of the lower half fails", x.path(3, 1L << 31, 0L), rest + 2);
        judged("bits 31 and 32", x, 1, both, 0L, 1);
        judged("bit 31", x, 1, 1L << 31, 0L, 0);
        judged("bit 32", x, 1, 1L << 32, 0L, 0);
    }

    private static void pathsEndAtAMatch() {
        SyscallFilter x = new SyscallFilter();
        x.add(0, 1, 0, 1L, 1L, 1);
        x.add(0, 1, 0, 1L, 1L, 2);
        x.add(0, 1, 1, -1L, 8L, 3);
        x.add(0, 1, 0, 2L, 2L, 4);
        x.compile(1000);
        Due.same("the first rule", x.path(1, 1L, 0L), 2);
        Due.same("the third rule, the second is out of reach", x.path(1, 0L, 8L), 4);
        Due.same("the last rule", x.path(1, 2L, 0L), 4);
        Due.same("the last rule, an upper half failed", x.path(1, 2L, 0x100000008L), 5);
        Due.same("no rule", x.path(1, 0L, 0L), 4);
        x.add(0, 1, 1, 0L, 0L, 5);
        x.add(0, 1, 0, 4L, 4L, 6);
        x.compile(1000);
        Due.same("a rule with the mask 0", x.path(1, 4L, 0L), 4);
    }

    private static void pathsOfAllFilters() {
        SyscallFilter x = new SyscallFilter();
        for (int filter = 0; filter < 4; filter++) {
            for (int number = 0; number <= filter; number++) {
                x.add(filter, number, 0, 1L, 1L, 1);
            }
        }
        x.compile(1000);
        Due.same("path of 0", x.path(0, 0L, 0L), 2 + 2 + 3 + 3);
        Due.same("path of 3", x.path(3, 0L, 0L), 1 + 2 + 2 + 4);
        Due.same("path of 31", x.path(31, 0L, 0L), 1 + 2 + 2 + 3);
    }

    private static void judgingRefuses() {
        SyscallFilter x = new SyscallFilter();
        for (int round = 0; round < 2; round++) {
            for (int number : NO_NUMBERS) {
                Due.illegalArgument("judge of " + number, () -> x.judge(number, 0L, 0L));
                Due.illegalArgument("judgeByRules of " + number, () -> x.judgeByRules(number, 0L, 0L));
                Due.illegalArgument("path of " + number, () -> x.path(number, 0L, 0L));
                Due.illegalArgument("actionOf " + number, () -> x.actionOf(0, number, 0L, 0L));
            }
            for (int filter : NO_FILTERS) {
                Due.illegalArgument("actionOf filter " + filter, () -> x.actionOf(filter, 0, 0L, 0L));
            }
            x.compile(0);
        }
        Due.yes("isCompiled after refused judging", x.isCompiled());
    }
}
