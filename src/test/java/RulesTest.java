/** Promises 1 to 7: the new object, add, remove, setDefault, setFrequency, rules, hider. */
public final class RulesTest {
    private static final int[] NO_FILTERS = {-1, 4, Integer.MIN_VALUE, Integer.MAX_VALUE};
    private static final int[] NO_NUMBERS = {-1, 32, Integer.MIN_VALUE, Integer.MAX_VALUE};
    private static final int[] NO_ACTIONS = {-1, 7, Integer.MIN_VALUE, Integer.MAX_VALUE};

    public static void main(String[] args) {
        newObject();
        addNumbersRules();
        addRefusesWrongArguments();
        addRefusesAnEleventhRule();
        addGoesBehindAllOthers();
        eachFilterTakesTenRules();
        removeMovesRulesUp();
        removeFromAFullFilter();
        removeRefuses();
        defaults();
        frequencies();
        leastAndGreatestSettings();
        ruleCounts();
        hiddenByItself();
        hiddenByAnEarlierRule();
        hiddenByARuleForAllCalls();
        hiddenByTheFirstOfSeveral();
        hidingBitsOfBothHalves();
        hidingIsToldByTwoRulesAlone();
        hidersInAFullFilter();
        hidersAfterRemoval();
        hiderRefuses();
        Due.end();
    }

    private static void newObject() {
        SyscallFilter x = new SyscallFilter();
        for (int filter = 0; filter < 4; filter++) {
            Due.same("rules of a new object", x.rules(filter), 0);
            Due.same("setDefault of a new object", x.setDefault(filter, 0), 0);
        }
        for (int number = 0; number < 32; number++) {
            Due.same("setFrequency of a new object", x.setFrequency(number, 0), 0);
            Due.same("judgeByRules of a new object", x.judgeByRules(number, -1L, 1L), 0);
        }
        Due.no("isCompiled of a new object", x.isCompiled());
        Due.illegalState("judge of a new object", () -> x.judge(0, 0L, 0L));
        Due.illegalState("path of a new object", () -> x.path(0, 0L, 0L));
        Due.illegalState("test of a new object", () -> x.test(0, 1));
        Due.illegalState("cost of a new object", () -> x.cost(0));
        Due.illegalState("worst of a new object", () -> x.worst(0));
        Due.outOfBounds("hider of a new object", () -> x.hider(0, 0));
        Due.outOfBounds("remove of a new object", () -> x.remove(0, 0));
        Due.same("compile of a new object", x.compile(0), 0);
    }

    private static void addNumbersRules() {
        SyscallFilter x = new SyscallFilter();
        for (int rule = 0; rule < 10; rule++) {
            Due.same("add", x.add(3, 31 - rule, rule % 2, Long.MIN_VALUE, Long.MAX_VALUE, rule % 7), rule);
        }
        Due.same("add to another filter", x.add(0, 0, 0, -1L, -1L, 6), 0);
        Due.same("actionOf a rule as it was added", x.actionOf(0, 0, -1L, 0L), 6);
        Due.same("actionOf another filter", x.actionOf(3, 0, -1L, 0L), 0);
    }

    private static void addRefusesWrongArguments() {
        SyscallFilter x = new SyscallFilter();
        x.compile(0);
        for (int filter : NO_FILTERS) {
            Due.illegalArgument("add to filter " + filter, () -> x.add(filter, 0, 0, 0L, 0L, 0));
        }
        for (int number : NO_NUMBERS) {
            Due.illegalArgument("add number " + number, () -> x.add(0, number, 0, 0L, 0L, 0));
        }
        for (int argument : new int[] {-1, 2, Integer.MIN_VALUE, Integer.MAX_VALUE}) {
            Due.illegalArgument("add argument " + argument, () -> x.add(0, 0, argument, 0L, 0L, 0));
        }
        for (int action : NO_ACTIONS) {
            Due.illegalArgument("add action " + action, () -> x.add(0, 0, 0, 0L, 0L, action));
        }
        Due.same("rules after refused adds", x.rules(0), 0);
        Due.yes("isCompiled after refused adds", x.isCompiled());
    }

    private static void addRefusesAnEleventhRule() {
        SyscallFilter x = new SyscallFilter();
        for (int rule = 0; rule < 10; rule++) {
            x.add(1, 0, 0, 0L, 0L, 1);
        }
        x.compile(1000);
        Due.illegalState("an eleventh rule", () -> x.add(1, 0, 0, 0L, 0L, 0));
        Due.illegalArgument("an eleventh rule of action 7", () -> x.add(1, 0, 0, 0L, 0L, 7));
        Due.same("rules after an eleventh", x.rules(1), 10);
        Due.yes("isCompiled after an eleventh", x.isCompiled());
        Due.same("remove from a full filter", x.remove(1, 9), 9);
        Due.same("add behind", x.add(1, 0, 0, 0L, 0L, 1), 9);
    }

    private static void addGoesBehindAllOthers() {
        SyscallFilter x = new SyscallFilter();
        x.add(0, 7, 0, 1L, 1L, 1);
        x.add(0, 7, 0, 2L, 2L, 2);
        x.remove(0, 0);
        Due.same("add after a removal", x.add(0, 7, 0, 1L, 1L, 3), 1);
        Due.same("the rule that was first is behind", x.actionOf(0, 7, 3L, 0L), 2);
        Due.same("and matches what that one does not", x.actionOf(0, 7, 1L, 0L), 3);
    }

    private static void eachFilterTakesTenRules() {
        SyscallFilter x = new SyscallFilter();
        for (int filter = 0; filter < 4; filter++) {
            for (int rule = 0; rule < 10; rule++) {
                Due.same("add to filter " + filter, x.add(filter, rule, 0, -1L, 9L, filter), rule);
            }
            int full = filter;
            Due.illegalState("an eleventh of filter " + full, () -> x.add(full, 31, 0, -1L, 9L, 6));
            Due.same("actionOf the tenth", x.actionOf(filter, 9, 9L, 0L), filter);
            Due.same("actionOf the refused one", x.actionOf(filter, 31, 9L, 0L), 0);
        }
    }

    private static void removeMovesRulesUp() {
        SyscallFilter x = new SyscallFilter();
        x.add(2, 7, 0, 1L, 1L, 1);
        x.add(2, 7, 0, 2L, 2L, 2);
        x.add(2, 7, 0, 4L, 4L, 3);
        x.add(1, 7, 0, 0L, 0L, 5);
        Due.same("remove the middle one", x.remove(2, 1), 2);
        Due.same("actionOf the first one", x.actionOf(2, 7, 7L, 0L), 1);
        Due.same("actionOf the removed one", x.actionOf(2, 7, 2L, 0L), 0);
        Due.same("actionOf the one behind", x.actionOf(2, 7, 6L, 0L), 3);
        Due.same("remove what moved up", x.remove(2, 1), 1);
        Due.same("actionOf what moved up", x.actionOf(2, 7, 6L, 0L), 0);
        Due.same("remove the last one", x.remove(2, 0), 0);
        Due.same("rules of another filter", x.rules(1), 1);
    }

    private static void removeFromAFullFilter() {
        SyscallFilter x = new SyscallFilter();
        for (int rule = 0; rule < 10; rule++) {
            x.add(2, 7, 0, 0xFFL, rule, rule % 6 + 1);
        }
        Due.outOfBounds("remove rule 10 of 10", () -> x.remove(2, 10));
        Due.same("remove rule 9 of 10", x.remove(2, 9), 9);
        Due.outOfBounds("remove rule 9 of 9", () -> x.remove(2, 9));
        Due.same("actionOf rule 9 that is gone", x.actionOf(2, 7, 9L, 0L), 0);
        Due.same("remove rule 0 of 9", x.remove(2, 0), 8);
        Due.same("actionOf rule 0 that is gone", x.actionOf(2, 7, 0L, 0L), 0);
        for (int value = 1; value < 9; value++) {
            Due.same("actionOf what is left", x.actionOf(2, 7, value, 0L), value % 6 + 1);
        }
        for (int left = 7; left >= 0; left--) {
            Due.same("remove rule 0 again", x.remove(2, 0), left);
        }
        Due.outOfBounds("remove rule 0 of none", () -> x.remove(2, 0));
    }

    private static void removeRefuses() {
        SyscallFilter x = new SyscallFilter();
        x.add(0, 0, 0, 0L, 0L, 0);
        x.compile(1000);
        for (int filter : NO_FILTERS) {
            Due.illegalArgument("remove of filter " + filter, () -> x.remove(filter, 9));
        }
        for (int rule : new int[] {-1, 1, 10, Integer.MIN_VALUE, Integer.MAX_VALUE}) {
            Due.outOfBounds("remove rule " + rule, () -> x.remove(0, rule));
        }
        Due.outOfBounds("remove from an empty filter", () -> x.remove(1, 0));
        Due.same("rules after refused removals", x.rules(0), 1);
        Due.yes("isCompiled after refused removals", x.isCompiled());
    }

    private static void defaults() {
        SyscallFilter x = new SyscallFilter();
        Due.same("setDefault 6", x.setDefault(1, 6), 0);
        Due.same("setDefault 3", x.setDefault(1, 3), 6);
        Due.same("actionOf by default", x.actionOf(1, 31, 0L, 0L), 3);
        Due.same("setDefault of another filter", x.setDefault(2, 1), 0);
        x.compile(0);
        for (int filter : NO_FILTERS) {
            Due.illegalArgument("setDefault of filter " + filter, () -> x.setDefault(filter, 0));
        }
        for (int action : NO_ACTIONS) {
            Due.illegalArgument("setDefault to " + action, () -> x.setDefault(1, action));
        }
        Due.yes("isCompiled after refused defaults", x.isCompiled());
        Due.same("setDefault after refused ones", x.setDefault(1, 3), 3);
    }

    private static void frequencies() {
        SyscallFilter x = new SyscallFilter();
        Due.same("setFrequency 1000", x.setFrequency(31, 1000), 0);
        Due.same("setFrequency 1", x.setFrequency(31, 1), 1000);
        Due.same("setFrequency of another number", x.setFrequency(0, 5), 0);
        x.compile(0);
        for (int number : NO_NUMBERS) {
            Due.illegalArgument("setFrequency of number " + number, () -> x.setFrequency(number, 0));
        }
        for (int frequency : new int[] {-1, 1001, Integer.MIN_VALUE, Integer.MAX_VALUE}) {
            Due.illegalArgument("setFrequency to " + frequency, () -> x.setFrequency(31, frequency));
        }
        Due.yes("isCompiled after refused frequencies", x.isCompiled());
        Due.same("setFrequency after refused ones", x.setFrequency(31, 1), 1);
    }

    private static void leastAndGreatestSettings() {
        SyscallFilter x = new SyscallFilter();
        for (int filter = 0; filter < 4; filter++) {
            Due.same("setDefault to the greatest", x.setDefault(filter, 6), 0);
            Due.same("setDefault to what is set", x.setDefault(filter, 6), 6);
            Due.same("setDefault to the least", x.setDefault(filter, 0), 6);
            Due.same("setDefault to the least again", x.setDefault(filter, 0), 0);
        }
        for (int number = 0; number < 32; number++) {
            Due.same("setFrequency to the greatest", x.setFrequency(number, 1000), 0);
            Due.same("setFrequency to what is set", x.setFrequency(number, 1000), 1000);
            Due.same("setFrequency to the least", x.setFrequency(number, 0), 1000);
            Due.same("setFrequency to the least again", x.setFrequency(number, 0), 0);
        }
    }

    private static void ruleCounts() {
        SyscallFilter x = new SyscallFilter();
        x.add(0, 1, 0, 0L, 1L, 0);
        x.add(0, 1, 0, 0L, 1L, 0);
        x.add(3, 1, 0, 0L, 0L, 0);
        Due.same("rules(0), all out of reach", x.rules(0), 2);
        Due.same("rules(1)", x.rules(1), 0);
        Due.same("rules(3)", x.rules(3), 1);
        for (int filter : NO_FILTERS) {
            Due.illegalArgument("rules(" + filter + ")", () -> x.rules(filter));
        }
    }

    private static void hiddenByItself() {
        SyscallFilter x = new SyscallFilter();
        x.add(0, 1, 0, 0L, 0L, 0);
        x.add(0, 1, 0, 1L, 3L, 0);
        x.add(0, 1, 0, Long.MAX_VALUE, Long.MIN_VALUE, 0);
        x.add(0, 2, 0, 0L, 1L, 0);
        x.add(0, 2, 1, 1L, 1L, 0);
        x.add(0, 2, 1, 0L, 0L, 0);
        Due.same("a rule for all calls", x.hider(0, 0), -1);
        Due.same("hidden by itself, behind a rule for all calls", x.hider(0, 1), 1);
        Due.same("hidden by itself by the highest bit", x.hider(0, 2), 2);
        Due.same("hidden by itself with mask 0", x.hider(0, 3), 3);
        Due.same("behind mask 0 with a value", x.hider(0, 4), -1);
        Due.same("mask 0 behind mask 0 with a value", x.hider(0, 5), -1);
    }

    private static void hiddenByAnEarlierRule() {
        SyscallFilter x = new SyscallFilter();
        x.add(1, 4, 0, 0xF0L, 0x30L, 0);
        x.add(1, 4, 0, 0xF0L, 0x30L, 0);
        x.add(1, 4, 0, 0xFFL, 0x31L, 0);
        x.add(1, 4, 0, 0xFFL, 0x41L, 0);
        x.add(1, 4, 0, 0x70L, 0x30L, 0);
        x.add(1, 4, 1, 0xFFL, 0x31L, 0);
        x.add(1, 5, 0, 0xFFL, 0x31L, 0);
        x.add(1, 4, 0, -1L, 0xFFFFFFFF00000070L, 0);
        x.add(1, 4, 0, -1L, 0xFFFFFFFF00000031L, 0);
        int[] hiders = {-1, 0, 0, -1, -1, -1, -1, -1, 0};
        for (int rule = 0; rule < hiders.length; rule++) {
            Due.same("hider of rule " + rule, x.hider(1, rule), hiders[rule]);
        }
        Due.same("a rule of another filter", x.add(2, 4, 0, 0xFFL, 0x31L, 0), 0);
        Due.same("hider in another filter", x.hider(2, 0), -1);
    }

    private static void hiddenByARuleForAllCalls() {
        SyscallFilter x = new SyscallFilter();
        x.add(0, 4, 1, 0L, 0L, 1);
        x.add(0, 4, 0, 6L, 2L, 2);
        x.add(0, 4, 1, 0L, 0L, 3);
        x.add(0, 4, 0, 0L, 0L, 3);
        x.add(0, 3, 1, 6L, 2L, 2);
        Due.same("of the other argument", x.hider(0, 1), 0);
        Due.same("of the same argument", x.hider(0, 2), 0);
        Due.same("both for all calls", x.hider(0, 3), 0);
        Due.same("of another number", x.hider(0, 4), -1);
    }

    private static void hiddenByTheFirstOfSeveral() {
        SyscallFilter x = new SyscallFilter();
        x.add(0, 4, 0, 3L, 4L, 1);
        x.add(0, 4, 0, 4L, 4L, 1);
        x.add(0, 4, 0, 6L, 6L, 1);
        x.add(0, 4, 1, 0L, 0L, 1);
        x.add(0, 4, 0, 7L, 7L, 1);
        x.add(0, 4, 1, 7L, 7L, 1);
        int[] hiders = {0, -1, 1, -1, 1, 3};
        for (int rule = 0; rule < hiders.length; rule++) {
            Due.same("the first hider of rule " + rule, x.hider(0, rule), hiders[rule]);
        }
    }

    private static void hidingBitsOfBothHalves() {
        for (int bit : new int[] {0, 31, 32, 63}) {
            long one = 1L << bit;
            SyscallFilter x = new SyscallFilter();
            x.add(0, 0, 1, ~one, one, 0);
            x.add(0, 0, 1, one, one, 0);
            x.add(0, 0, 1, ~one, 0L, 0);
            x.add(0, 0, 1, -1L, one, 0);
            x.add(0, 0, 1, one, one, 0);
            x.add(0, 0, 1, one, 0L, 0);
            x.add(0, 0, 1, -1L, ~one, 0);
            x.add(0, 0, 1, ~one, 1L << 5, 0);
            int[] hiders = {0, -1, -1, 1, 1, -1, 5, -1};
            for (int rule = 0; rule < hiders.length; rule++) {
                Due.same("bit " + bit + ", hider of rule " + rule, x.hider(0, rule), hiders[rule]);
            }
        }
    }

    private static void hidingIsToldByTwoRulesAlone() {
        SyscallFilter x = new SyscallFilter();
        x.add(0, 4, 0, 1L, 0L, 1);
        x.add(0, 4, 0, 1L, 1L, 2);
        x.add(0, 4, 0, 2L, 2L, 3);
        x.add(0, 4, 0, 0L, 0L, 4);
        Due.same("no call is left for it, but by two rules", x.hider(0, 2), -1);
        Due.same("a rule for all calls behind all calls", x.hider(0, 3), -1);
        Due.same("a later rule hides none", x.hider(0, 0), -1);
    }

    private static void hidersInAFullFilter() {
        SyscallFilter x = new SyscallFilter();
        for (int rule = 0; rule < 10; rule++) {
            x.add(3, rule == 9 ? 0 : rule, 0, 1L, 1L, 0);
        }
        Due.same("hider of rule 8", x.hider(3, 8), -1);
        Due.same("hider of rule 9", x.hider(3, 9), 0);
        Due.outOfBounds("hider of rule 10 of 10", () -> x.hider(3, 10));
        x.remove(3, 9);
        Due.outOfBounds("hider of rule 9 of 9", () -> x.hider(3, 9));
    }

    private static void hidersAfterRemoval() {
        SyscallFilter x = new SyscallFilter();
        x.add(0, 4, 0, 1L, 1L, 1);
        x.add(0, 4, 0, 2L, 2L, 1);
        x.add(0, 4, 0, 3L, 3L, 1);
        Due.same("the first of two hiders", x.hider(0, 2), 0);
        x.remove(0, 0);
        Due.same("the second of two hiders", x.hider(0, 1), 0);
        x.remove(0, 0);
        Due.same("no hider is left", x.hider(0, 0), -1);
    }

    private static void hiderRefuses() {
        SyscallFilter x = new SyscallFilter();
        x.add(3, 0, 0, 0L, 0L, 0);
        for (int filter : NO_FILTERS) {
            Due.illegalArgument("hider of filter " + filter, () -> x.hider(filter, 9));
        }
        for (int rule : new int[] {-1, 1, 10, Integer.MIN_VALUE, Integer.MAX_VALUE}) {
            Due.outOfBounds("hider of rule " + rule, () -> x.hider(3, rule));
        }
        Due.outOfBounds("hider in an empty filter", () -> x.hider(0, 0));
    }
}
