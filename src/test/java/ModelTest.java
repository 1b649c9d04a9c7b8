/** Long runs of calls, the same ones each time, of which each answer is compared with the Model. */
public final class ModelTest {
    private static final int RUNS = 200;
    private static final int CALLS = 512;
    private static final long[] MASKS = {
        0L, 1L, 3L, 6L, 0x80000000L, 0x100000000L, 0x300000001L, Long.MIN_VALUE, -1L, 0xFFFFFFFFL, ~0xFFFFFFFFL,
    };

    private long seed;
    private SyscallFilter filter;
    private Model model;
    private String call;
    private int spread;

    public static void main(String[] args) {
        for (int run = 0; run < RUNS; run++) {
            new ModelTest().run(run);
        }
        Due.end();
    }

    private void run(int run) {
        seed = run * 7919L + 17;
        filter = new SyscallFilter();
        model = new Model();
        spread = run % 3 == 0 ? 3 : run % 3 == 1 ? 12 : 32;
        for (int i = 0; i < CALLS; i++) {
            call = "run " + run + ", call " + i + ": ";
            oneCall();
        }
    }

    /** A linear congruential generator: the tests use no source of chance. */
    private int below(int bound) {
        seed = seed * 6364136223846793005L + 1442695040888963407L;
        return (int) ((seed >>> 33) % bound);
    }

    private int number() {
        return below(8) == 0 ? below(32) : below(spread);
    }

    private long word() {
        long word = MASKS[below(MASKS.length)] ^ MASKS[below(MASKS.length)];
        return below(2) == 0 ? word : word & MASKS[below(MASKS.length)];
    }

    private void oneCall() {
        int kind = below(20);
        if (kind < 5) {
            addOne();
        } else if (kind < 6) {
            removeOne();
        } else if (kind < 7) {
            setOne();
        } else if (kind < 10) {
            compileOnce();
        } else if (kind < 13) {
            askRules();
        } else if (kind < 16) {
            askTrees();
        } else {
            judgeOne();
        }
    }

    private void addOne() {
        int at = below(4);
        int number = number();
        int argument = below(2);
        long mask = MASKS[below(MASKS.length)];
        long value = below(5) == 0 ? word() : word() & mask;
        int action = below(7);
        if (model.rules.get(at).size() == 10) {
            Due.illegalState(call + "add", () -> filter.add(at, number, argument, mask, value, action));
            return;
        }
        Due.same(call + "add", filter.add(at, number, argument, mask, value, action), model.rules.get(at).size());
        model.rules.get(at).add(new Model.Rule(number, argument, mask, value, action));
        model.compiled = false;
    }

    private void removeOne() {
        int at = below(4);
        int rule = below(11);
        if (rule >= model.rules.get(at).size()) {
            Due.outOfBounds(call + "remove", () -> filter.remove(at, rule));
            return;
        }
        model.rules.get(at).remove(rule);
        model.compiled = false;
        Due.same(call + "remove", filter.remove(at, rule), model.rules.get(at).size());
    }

    private void setOne() {
        if (below(2) == 0) {
            int at = below(4);
            int action = below(7);
            Due.same(call + "setDefault", filter.setDefault(at, action), model.defaults[at]);
            model.compiled &= model.defaults[at] == action;
            model.defaults[at] = action;
        } else {
            int number = number();
            int frequency = below(3) == 0 ? below(1001) : below(4);
            Due.same(call + "setFrequency", filter.setFrequency(number, frequency), model.frequencies[number]);
            model.compiled &= model.frequencies[number] == frequency;
            model.frequencies[number] = frequency;
        }
    }

    private void compileOnce() {
        int bound = below(3) == 0 ? below(60) : 1000;
        Due.same(call + "compile", filter.compile(bound), model.compile(bound));
        Due.same(call + "isCompiled", filter.isCompiled() ? 1 : 0, model.compiled ? 1 : 0);
    }

    private void askRules() {
        int at = below(4);
        int rule = below(11);
        Due.same(call + "rules", filter.rules(at), model.rules.get(at).size());
        if (rule >= model.rules.get(at).size()) {
            Due.outOfBounds(call + "hider", () -> filter.hider(at, rule));
        } else {
            Due.same(call + "hider", filter.hider(at, rule), model.hider(at, rule));
        }
    }

    private void askTrees() {
        int at = below(4);
        if (!model.compiled) {
            Due.illegalState(call + "test", () -> filter.test(at, 1));
            Due.illegalState(call + "cost", () -> filter.cost(at));
            Due.illegalState(call + "worst", () -> filter.worst(at));
            return;
        }
        int path = 1 + below(below(2) == 0 ? 16 : 1024);
        Due.same(call + "test(" + at + ", " + path + ")", filter.test(at, path), model.test(at, path));
        Due.same(call + "cost", filter.cost(at), model.cost(at));
        Due.same(call + "worst", filter.worst(at), model.worst(at));
    }

    private void judgeOne() {
        int at = below(4);
        int number = number();
        long first = word();
        long second = word();
        Due.same(call + "actionOf", filter.actionOf(at, number, first, second),
                model.action(at, number, first, second));
        int action = model.judge(number, first, second);
        Due.same(call + "judgeByRules", filter.judgeByRules(number, first, second), action);
        if (!model.compiled) {
            Due.illegalState(call + "judge", () -> filter.judge(number, first, second));
            Due.illegalState(call + "path", () -> filter.path(number, first, second));
            return;
        }
        Due.same(call + "judge", filter.judge(number, first, second), action);
        Due.same(call + "path", filter.path(number, first, second), model.path(number, first, second));
    }
}
