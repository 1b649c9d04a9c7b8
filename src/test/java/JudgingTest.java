/** Promises 13 to 16: judge, judgeByRules, path, actionOf. */
public final class JudgingTest {
    private static final int[] NO_NUMBERS = {-1, 32, Integer.MIN_VALUE, Integer.MAX_VALUE};
    private static final int[] NO_FILTERS = {-1, 4, Integer.MIN_VALUE, Integer.MAX_VALUE};

    public static void main(String[] args) {
        firstMatchDecides();
        bothArguments();
        strictestOfAllFilters();
        judgingByRulesNeedsNoCompiling();
        judgingSeesChangesWhenCompiled();
        pathsOfNumbers();
        pathsOfHalves();
        pathsEndAtAMatch();
        pathsOfAllFilters();
        judgingRefuses();
        Due.end();
    }

    /** Both ways of judging must agree whenever all is compiled. */
    private static void judged(String call, SyscallFilter x, int number, long first, long second, int want) {
        Due.same("judge of " + call, x.judge(number, first, second), want);
        Due.same("judgeByRules of " + call, x.judgeByRules(number, first, second), want);
    }

    private static void firstMatchDecides() {
        SyscallFilter x = new SyscallFilter();
        x.setDefault(0, 3);
        x.add(0, 5, 0, 1L, 1L, 2);
        x.add(0, 5, 0, 2L, 2L, 6);
        x.add(0, 5, 0, 0L, 4L, 6);
        x.add(0, 5, 0, 3L, 3L, 6);
        x.compile(1000);
        judged("the first rule", x, 5, 3L, 0L, 2);
        judged("the second rule", x, 5, 2L, 0L, 6);
        judged("the default", x, 5, 4L, 0L, 3);
        judged("another number", x, 4, 3L, 0L, 3);
        judged("the greatest number", x, 31, 3L, 0L, 3);
        Due.same("actionOf the first rule", x.actionOf(0, 5, 3L, 0L), 2);
        Due.same("actionOf the second rule", x.actionOf(0, 5, 2L, 0L), 6);
        Due.same("actionOf the default", x.actionOf(0, 5, 4L, 0L), 3);
        Due.same("actionOf another number", x.actionOf(0, 6, 1L, 0L), 3);
    }

    private static void bothArguments() {
        SyscallFilter x = new SyscallFilter();
        x.add(0, 0, 1, -1L, Long.MIN_VALUE, 4);
        x.add(0, 0, 0, 0xFF00000000L, 0x1200000000L, 5);
        x.compile(1000);
        judged("the second argument", x, 0, 0L, Long.MIN_VALUE, 4);
        judged("the first argument", x, 0, 0x7712FFFFFFFFL, 0L, 5);
        judged("the first argument of another rule", x, 0, Long.MIN_VALUE, 0L, 0);
        judged("the second argument of another rule", x, 0, 0L, 0x1200000000L, 0);
        judged("both", x, 0, 0x1200000000L, Long.MIN_VALUE, 4);
    }

    private static void strictestOfAllFilters() {
        SyscallFilter x = new SyscallFilter();
        x.add(0, 1, 0, 0L, 0L, 1);
        x.add(1, 1, 0, 1L, 1L, 5);
        x.add(2, 1, 0, 3L, 3L, 6);
        x.setDefault(3, 2);
        x.compile(1000);
        judged("the default of a filter", x, 1, 0L, 0L, 2);
        judged("a rule", x, 1, 1L, 0L, 5);
        judged("the strictest rule", x, 1, 3L, 0L, 6);
        judged("a number without rules", x, 2, 3L, 0L, 2);
        Due.same("actionOf one filter", x.actionOf(0, 1, 3L, 0L), 1);
        Due.same("actionOf the filter of defaults", x.actionOf(3, 1, 3L, 0L), 2);
    }

    private static void judgingByRulesNeedsNoCompiling() {
        SyscallFilter x = new SyscallFilter();
        x.add(2, 9, 1, -1L, 7L, 3);
        Due.same("judgeByRules before compiling", x.judgeByRules(9, 0L, 7L), 3);
        Due.same("actionOf before compiling", x.actionOf(2, 9, 0L, 7L), 3);
        Due.no("isCompiled after judging by rules", x.isCompiled());
        Due.illegalState("judge before compiling", () -> x.judge(9, 0L, 7L));
        Due.illegalState("path before compiling", () -> x.path(9, 0L, 7L));
        x.compile(1000);
        x.remove(2, 0);
        Due.same("judgeByRules after a change", x.judgeByRules(9, 0L, 7L), 0);
        Due.illegalState("judge after a change", () -> x.judge(9, 0L, 7L));
        Due.illegalState("path after a change", () -> x.path(9, 0L, 7L));
    }

    private static void judgingSeesChangesWhenCompiled() {
        SyscallFilter x = new SyscallFilter();
        x.add(0, 9, 0, 1L, 1L, 3);
        x.add(0, 9, 0, 0L, 0L, 4);
        x.compile(1000);
        judged("the first rule", x, 9, 1L, 0L, 3);
        x.remove(0, 0);
        x.compile(1000);
        judged("without the first rule", x, 9, 1L, 0L, 4);
        Due.same("path without the first rule", x.path(9, 1L, 0L), 1);
        x.remove(0, 0);
        x.setDefault(0, 1);
        x.compile(1000);
        judged("without rules", x, 9, 1L, 0L, 1);
        Due.same("path without rules", x.path(9, 1L, 0L), 0);
    }

    private static void pathsOfNumbers() {
        SyscallFilter x = new SyscallFilter();
        Due.same("compile of nothing", x.compile(0), 0);
        Due.same("path of nothing", x.path(0, 0L, 0L), 0);
        x.add(0, 10, 0, 0L, 0L, 1);
        x.add(0, 20, 0, 0L, 0L, 1);
        x.compile(1000);
        int[] numbers = {0, 9, 10, 11, 19, 20, 21, 31};
        int[] paths = {1, 1, 1, 2, 2, 2, 2, 2};
        for (int i = 0; i < numbers.length; i++) {
            Due.same("path of number " + numbers[i], x.path(numbers[i], -1L, -1L), paths[i]);
        }
    }

    private static void pathsOfHalves() {
        SyscallFilter x = new SyscallFilter();
        x.add(0, 1, 0, 0x100000001L, 0x100000001L, 1);
        x.add(1, 2, 1, 0x7FL, 0x40L, 1);
        x.add(2, 3, 1, 0x8000000000000000L, 0x8000000000000000L, 1);
        x.add(3, 4, 0, 0x80000000L, 0x80000000L, 1);
        x.compile(1000);
        int rest = 3;
        Due.same("both halves match", x.path(1, 0x100000001L, 0L), rest + 3);
        Due.same("the upper half fails", x.path(1, 1L, 0L), rest + 3);
        Due.same("the lower half fails", x.path(1, 0x100000000L, 0L), rest + 2);
        Due.same("only a lower half matches", x.path(2, 0L, 0x40L), rest + 2);
        Due.same("only a lower half fails", x.path(2, 0L, 0x41L), rest + 2);
        Due.same("only an upper half matches", x.path(3, 0L, -1L), rest + 2);
        Due.same("only an upper half fails", x.path(3, 0L, 0x7FFFFFFFFFFFFFFFL), rest + 2);
        Due.same("the highest bit of the lower half", x.path(4, 0x80000000L, 0L), rest + 2);
        judged("both halves", x, 1, 0x100000001L, 0L, 1);
        judged("a failing upper half", x, 1, 1L, 0L, 0);
        judged("an upper half", x, 3, 0L, Long.MIN_VALUE, 1);
    }

    private static void pathsEndAtAMatch() {
        SyscallFilter x = new SyscallFilter();
        x.add(0, 1, 0, 1L, 1L, 1);
        x.add(0, 1, 0, 1L, 1L, 2);
        x.add(0, 1, 1, -1L, 8L, 3);
        x.add(0, 1, 0, 2L, 2L, 4);
        x.compile(1000);
        Due.same("the first rule", x.path(1, 1L, 0L), 2);
        Due.same("the third rule, the second is out of reach", x.path(1, 0L, 8L), 4);
        Due.same("the last rule", x.path(1, 2L, 0L), 4);
        Due.same("the last rule, an upper half failed", x.path(1, 2L, 0x100000008L), 5);
        Due.same("no rule", x.path(1, 0L, 0L), 4);
        x.add(0, 1, 1, 0L, 0L, 5);
        x.add(0, 1, 0, 4L, 4L, 6);
        x.compile(1000);
        Due.same("a rule with the mask 0", x.path(1, 4L, 0L), 4);
    }

    private static void pathsOfAllFilters() {
        SyscallFilter x = new SyscallFilter();
        for (int filter = 0; filter < 4; filter++) {
            for (int number = 0; number <= filter; number++) {
                x.add(filter, number, 0, 1L, 1L, 1);
            }
        }
        x.compile(1000);
        Due.same("path of 0", x.path(0, 0L, 0L), 2 + 2 + 3 + 3);
        Due.same("path of 3", x.path(3, 0L, 0L), 1 + 2 + 2 + 4);
        Due.same("path of 31", x.path(31, 0L, 0L), 1 + 2 + 2 + 3);
    }

    private static void judgingRefuses() {
        SyscallFilter x = new SyscallFilter();
        for (int round = 0; round < 2; round++) {
            for (int number : NO_NUMBERS) {
                Due.illegalArgument("judge of " + number, () -> x.judge(number, 0L, 0L));
                Due.illegalArgument("judgeByRules of " + number, () -> x.judgeByRules(number, 0L, 0L));
                Due.illegalArgument("path of " + number, () -> x.path(number, 0L, 0L));
                Due.illegalArgument("actionOf " + number, () -> x.actionOf(0, number, 0L, 0L));
            }
            for (int filter : NO_FILTERS) {
                Due.illegalArgument("actionOf filter " + filter, () -> x.actionOf(filter, 0, 0L, 0L));
            }
            x.compile(0);
        }
        Due.yes("isCompiled after refused judging", x.isCompiled());
    }
}
