import java.util.function.IntSupplier;

/**
 * Long runs of calls, the same ones each time, of which each answer is compared with the Model. An
 * object gets 512 calls, for nothing is promised of it afterwards.
 */
public final class ModelTest {
    private static final int RUNS = 120;
    private static final int CALLS = 512;
    private static final long[] MASKS = {
        0L, 1L, 3L, 6L, 0x80000000L, 0x100000000L, 0x300000001L, Long.MIN_VALUE, -1L, 0xFFFFFFFFL, ~0xFFFFFFFFL,
    };

    private long seed;
    private SyscallFilter filter;
    private Model model;
    private String call;
    private int spread;

    public static void main(String[] args) {
        for (int run = 0; run < RUNS; run++) {
            new ModelTest().run(run);
        }
        Due.end();
    }

    private void run(int run) {
        seed = run * 7919L + 17;
        filter = new SyscallFilter();
        model = new Model();
        spread = run % 3 == 0 ? 3 : run % 3 == 1 ? 12 : 32;
        for (int i = 0; i < CALLS; i++) {
            call = "run " + run + ", call " + i + ": ";
            oneCall();
        }
    }

    /** A linear congruential generator: the tests use no source of chance. */
    private int below(int bound) {
        seed = seed * 6364136223846793005L + 1442695040888963407L;
        return (int) ((seed >>> 33) % bound);
    }

    private int number() {
        return below(8) == 0 ? below(32) : below(spread);
    }

    private long word() {
        long word = MASKS[below(MASKS.length)] ^ MASKS[below(MASKS.length)];
        return below(2) == 0 ? word : word & MASKS[below(MASKS.length)];
    }

    private void oneCall() {
        int kind = below(30);
        if (kind < 5) {
            addOne();
        } else if (kind < 6) {
            removeOne();
        } else if (kind < 7) {
            setOne();
        } else if (kind < 11) {
            compileOnce();
        } else if (kind < 12) {
            Due.same(call + "isCompiled", filter.isCompiled() ? 1 : 0, model.compiled ? 1 : 0);
        } else if (kind < 15) {
            askRules();
        } else if (kind < 22) {
            askTrees();
        } else {
            judgeOne();
        }
    }

    private void addOne() {
        int at = below(4);
        int number = number();
        int argument = below(2);
        long mask = MASKS[below(MASKS.length)];
        long value = below(5) == 0 ? word() : word() & mask;
        int action = below(7);
        if (model.rules.get(at).size() == 10) {
            Due.illegalState(call + "add", () -> filter.add(at, number, argument, mask, value, action));
            return;
        }
        Due.same(call + "add", filter.add(at, number, argument, mask, value, action), model.rules.get(at).size());
        model.rules.get(at).add(new Model.Rule(number, argument, mask, value, action));
        model.compiled = false;
    }

    private void removeOne() {
        int at = below(4);
        int rule = below(11);
        if (rule >= model.rules.get(at).size()) {
            Due.outOfBounds(call + "remove", () -> filter.remove(at, rule));
            return;
        }
        model.rules.get(at).remove(rule);
        model.compiled = false;
        Due.same(call + "remove", filter.remove(at, rule), model.rules.get(at).size());
    }

    private void setOne() {
        if (below(2) == 0) {
            int at = below(4);
            int action = below(7);
            Due.same(call + "setDefault", filter.setDefault(at, action), model.defaults[at]);
            model.compiled &= model.defaults[at] == action;
            model.defaults[at] = action;
        } else {
            int number = number();
            int frequency = below(3) == 0 ? below(1001) : below(4);
            Due.same(call + "setFrequency", filter.setFrequency(number, frequency), model.frequencies[number]);
            model.compiled &= model.frequencies[number] == frequency;
            model.frequencies[number] = frequency;
        }
    }

    private void compileOnce() {
        int bound = below(3) == 0 ? below(60) : 1000;
        Due.same(call + "compile(" + bound + ")", filter.compile(bound), model.compile(bound));
    }

    private void askRules() {
        int at = below(4);
        int rule = below(11);
        if (below(4) == 0) {
            Due.same(call + "rules", filter.rules(at), model.rules.get(at).size());
        } else if (rule >= model.rules.get(at).size()) {
            Due.outOfBounds(call + "hider", () -> filter.hider(at, rule));
        } else {
            Due.same(call + "hider", filter.hider(at, rule), model.hider(at, rule));
        }
    }

    private void askTrees() {
        int at = below(4);
        int kind = below(4);
        int path = 1 + below(below(2) == 0 ? 16 : 1024);
        if (kind == 0) {
            asked("cost", () -> filter.cost(at), () -> model.cost(at));
        } else if (kind == 1) {
            asked("worst", () -> filter.worst(at), () -> model.worst(at));
        } else {
            asked("test(" + at + ", " + path + ")", () -> filter.test(at, path), () -> model.test(at, path));
        }
    }

    private void judgeOne() {
        int at = below(4);
        int kind = below(4);
        int number = number();
        long first = word();
        long second = word();
        String inBrackets = "(" + number + ", " + first + ", " + second + ")";
        if (kind == 0) {
            Due.same(call + "actionOf " + at + inBrackets, filter.actionOf(at, number, first, second),
                    model.action(at, number, first, second));
        } else if (kind == 1) {
            Due.same(call + "judgeByRules" + inBrackets, filter.judgeByRules(number, first, second),
                    model.judge(number, first, second));
        } else if (kind == 2) {
            asked("judge" + inBrackets, () -> filter.judge(number, first, second),
                    () -> model.judge(number, first, second));
        } else {
            asked("path" + inBrackets, () -> filter.path(number, first, second),
                    () -> model.path(number, first, second));
        }
    }

    /** A call that throws while nothing is compiled. */
    private void asked(String told, IntSupplier made, IntSupplier due) {
        if (model.compiled) {
            Due.same(call + told, made.getAsInt(), due.getAsInt());
        } else {
            Due.illegalState(call + told, () -> made.getAsInt());
        }
    }
}
