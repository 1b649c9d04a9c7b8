/**
 * Each call of the face with arguments at and beyond the ends of their ranges, on objects in each
 * state: what it throws, which of several exceptions is thrown, and that nothing has changed then.
 */
public final class WrongInputsTest {
    private static final int[] FILTERS = {Integer.MIN_VALUE, -1, 0, 1, 3, 4, Integer.MAX_VALUE};
    private static final int[] NUMBERS = {Integer.MIN_VALUE, -1, 0, 31, 32, Integer.MAX_VALUE};
    private static final int[] ARGUMENTS = {Integer.MIN_VALUE, -1, 0, 1, 2, Integer.MAX_VALUE};
    private static final int[] ACTIONS = {Integer.MIN_VALUE, -1, 0, 6, 7, Integer.MAX_VALUE};
    private static final int[] RULES = {Integer.MIN_VALUE, -1, 0, 1, 9, 10, 11, Integer.MAX_VALUE};
    private static final int[] FREQUENCIES = {Integer.MIN_VALUE, -1, 0, 1000, 1001, Integer.MAX_VALUE};
    private static final int[] BOUNDS = {Integer.MIN_VALUE, -1, 0, 1000, 1001, Integer.MAX_VALUE};
    private static final int[] PATHS = {Integer.MIN_VALUE, -1, 0, 1, 2, 1 << 30, Integer.MAX_VALUE};
    private static final long[] WORDS = {0L, 1L, 0x300000003L, Long.MIN_VALUE, Long.MAX_VALUE, -1L};

    private static final Class<IllegalArgumentException> ARGUMENT = IllegalArgumentException.class;
    private static final Class<IllegalStateException> STATE = IllegalStateException.class;
    private static final Class<IndexOutOfBoundsException> INDEX = IndexOutOfBoundsException.class;

    /** Filter 0 is empty, 1 has one rule, 3 is full, unless the object is new. */
    private enum State {
        NEW, COMPILED, CHANGED, ABOVE_THE_BOUND;

        SyscallFilter made() {
            SyscallFilter x = new SyscallFilter();
            if (this == NEW) {
                return x;
            }
            x.add(1, 31, 1, 0L, 0L, 4);
            for (int rule = 0; rule < 10; rule++) {
                x.add(3, rule % 6, rule % 2, rule, rule % 5, rule % 7);
            }
            x.setDefault(0, 1);
            x.setFrequency(3, 1000);
            if (this != ABOVE_THE_BOUND) {
                x.compile(1000);
            }
            if (this == CHANGED) {
                x.setDefault(2, 5);
            }
            if (this == ABOVE_THE_BOUND) {
                x.compile(1);
            }
            return x;
        }

        int rules(int filter) {
            return this == NEW || filter == 0 || filter == 2 ? 0 : filter == 1 ? 1 : 10;
        }

        boolean isCompiled() {
            return this == COMPILED;
        }
    }

    private interface Call {
        void on(SyscallFilter x);
    }

    public static void main(String[] args) {
        for (State state : State.values()) {
            adding(state);
            changing(state);
            askingRules(state);
            askingTrees(state);
            judging(state);
        }
        Due.end();
    }

    private static boolean in(int value, int least, int most) {
        return value >= least && value <= most;
    }

    private static Class<? extends RuntimeException> dueOfRule(State state, int filter, int rule) {
        if (!in(filter, 0, 3)) {
            return ARGUMENT;
        }
        return in(rule, 0, state.rules(filter) - 1) ? null : INDEX;
    }

    private static Class<? extends RuntimeException> dueOfRange(boolean inRange) {
        return inRange ? null : ARGUMENT;
    }

    private static Class<? extends RuntimeException> dueOfTree(State state, boolean inRange) {
        if (!inRange) {
            return ARGUMENT;
        }
        return state.isCompiled() ? null : STATE;
    }

    private static void adding(State state) {
        for (int filter : FILTERS) {
            for (int number : NUMBERS) {
                for (int argument : ARGUMENTS) {
                    for (int action : ACTIONS) {
                        adding(state, filter, number, argument, action);
                    }
                }
            }
        }
    }

    private static void adding(State state, int filter, int number, int argument, int action) {
        boolean inRange = in(filter, 0, 3) && in(number, 0, 31) && in(argument, 0, 1) && in(action, 0, 6);
        boolean full = inRange && state.rules(filter) == 10;
        String call = "add(" + filter + ", " + number + ", " + argument + ", -1, 0, " + action + ")";
        made(call, state, full ? STATE : dueOfRange(inRange), x -> x.add(filter, number, argument, -1L, 0L, action));
    }

    private static void changing(State state) {
        for (int filter : FILTERS) {
            for (int rule : RULES) {
                made("remove(" + filter + ", " + rule + ")", state, dueOfRule(state, filter, rule),
                        x -> x.remove(filter, rule));
            }
            for (int action : ACTIONS) {
                made("setDefault(" + filter + ", " + action + ")", state,
                        dueOfRange(in(filter, 0, 3) && in(action, 0, 6)), x -> x.setDefault(filter, action));
            }
        }
        for (int number : NUMBERS) {
            for (int frequency : FREQUENCIES) {
                made("setFrequency(" + number + ", " + frequency + ")", state,
                        dueOfRange(in(number, 0, 31) && in(frequency, 0, 1000)),
                        x -> x.setFrequency(number, frequency));
            }
        }
        for (int bound : BOUNDS) {
            made("compile(" + bound + ")", state, dueOfRange(in(bound, 0, 1000)), x -> x.compile(bound));
        }
    }

    private static void askingRules(State state) {
        for (int filter : FILTERS) {
            made("rules(" + filter + ")", state, dueOfRange(in(filter, 0, 3)), x -> x.rules(filter));
            for (int rule : RULES) {
                made("hider(" + filter + ", " + rule + ")", state, dueOfRule(state, filter, rule),
                        x -> x.hider(filter, rule));
            }
        }
        made("isCompiled()", state, null, x -> x.isCompiled());
    }

    private static void askingTrees(State state) {
        for (int filter : FILTERS) {
            for (int path : PATHS) {
                made("test(" + filter + ", " + path + ")", state, dueOfTree(state, in(filter, 0, 3) && path >= 1),
                        x -> x.test(filter, path));
            }
            made("cost(" + filter + ")", state, dueOfTree(state, in(filter, 0, 3)), x -> x.cost(filter));
            made("worst(" + filter + ")", state, dueOfTree(state, in(filter, 0, 3)), x -> x.worst(filter));
        }
    }

    private static void judging(State state) {
        for (int number : NUMBERS) {
            for (long word : WORDS) {
                String inBrackets = "(" + number + ", " + word + ", " + ~word + ")";
                made("judge" + inBrackets, state, dueOfTree(state, in(number, 0, 31)),
                        x -> x.judge(number, word, ~word));
                made("judgeByRules" + inBrackets, state, dueOfRange(in(number, 0, 31)),
                        x -> x.judgeByRules(number, word, ~word));
                made("path" + inBrackets, state, dueOfTree(state, in(number, 0, 31)),
                        x -> x.path(number, word, ~word));
                for (int filter : FILTERS) {
                    made("actionOf " + filter + inBrackets, state,
                            dueOfRange(in(filter, 0, 3) && in(number, 0, 31)),
                            x -> x.actionOf(filter, number, word, ~word));
                }
            }
        }
    }

    /** Makes a call on an object of its own; want is null if nothing is to be thrown. */
    private static void made(String told, State state, Class<? extends RuntimeException> want, Call call) {
        SyscallFilter x = state.made();
        String named = state + ": " + told;
        if (want == null) {
            try {
                call.on(x);
            } catch (RuntimeException e) {
                Due.yes(named + " threw " + e + ", it throws nothing", false);
            }
            return;
        }
        Due.thrown(named, want, () -> call.on(x));
        Due.text("all answers after " + named, allAnswers(x), allAnswers(state.made()));
    }

    /** What an object tells of itself, in fewer than 512 calls; what it sets last is what it asks then. */
    private static String allAnswers(SyscallFilter x) {
        StringBuilder told = new StringBuilder();
        boolean compiled = x.isCompiled();
        told.append(compiled);
        for (int filter = 0; filter < 4; filter++) {
            told.append(" filter ").append(x.rules(filter));
            for (int rule = 0; rule < x.rules(filter); rule++) {
                told.append(' ').append(x.hider(filter, rule));
            }
            for (int path = 1; compiled && path < 16; path++) {
                told.append(' ').append(x.test(filter, path));
            }
            told.append(compiled ? " " + x.cost(filter) + " " + x.worst(filter) : " no tree");
            for (int number = 0; number < 7; number++) {
                told.append(' ').append(x.actionOf(filter, number, 2L, 3L));
            }
        }
        for (int number = 0; number < 7; number++) {
            told.append(' ').append(x.judgeByRules(number, 3L, 2L));
            told.append(compiled ? " " + x.judge(number, 1L, 4L) + " " + x.path(number, 1L, 4L) : " unjudged");
        }
        for (int filter = 0; filter < 4; filter++) {
            told.append(' ').append(x.setDefault(filter, 0));
        }
        for (int number = 0; number < 32; number++) {
            told.append(' ').append(x.setFrequency(number, 0));
        }
        return told.toString();
    }
}
