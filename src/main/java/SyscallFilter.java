import java.util.ArrayList;

/** Compiles four filters over system calls into trees of tests, and judges calls by them. */
public final class SyscallFilter {
    private static final int FILTERS = 4;
    private static final int MOST_RULES = 10;
    private static final int NUMBERS = 32;
    private static final int ARGUMENTS = 2;
    private static final int ACTIONS = 7;
    private static final int MOST_FREQUENCY = 1000;
    private static final int MOST_BOUND = 1000;
    private static final int NONE = -1;
    private static final long LOWER_HALF = 0xFFFFFFFFL;

    private final Filter[] filters = new Filter[FILTERS];
    private final int[] frequencies = new int[NUMBERS];
    private final Planner planner = new Planner();
    private boolean compiled;

    public SyscallFilter() {
        for (int filter = 0; filter < FILTERS; filter++) {
            filters[filter] = new Filter();
        }
    }

    // ---- rules

    public int add(int filter, int number, int argument, long mask, long value, int action)
            throws IllegalArgumentException, IllegalStateException {
        requireFilter(filter);
        requireNumber(number);
        if (argument < 0 || argument >= ARGUMENTS) {
            throw new IllegalArgumentException("an argument is 0 or 1");
        }
        requireAction(action);
        if (filters[filter].isFull()) {
            throw new IllegalStateException("the filter has 10 rules");
        }
        compiled = false;
        return filters[filter].append(new Rule(number, argument, mask, value, action));
    }

    public int remove(int filter, int rule) throws IllegalArgumentException, IndexOutOfBoundsException {
        requireFilter(filter);
        requireRule(filter, rule);
        compiled = false;
        return filters[filter].drop(rule);
    }

    public int setDefault(int filter, int action) throws IllegalArgumentException {
        requireFilter(filter);
        requireAction(action);
        int before = filters[filter].defaultAction;
        if (action != before) {
            filters[filter].defaultAction = action;
            compiled = false;
        }
        return before;
    }

    public int setFrequency(int number, int frequency) throws IllegalArgumentException {
        requireNumber(number);
        if (frequency < 0 || frequency > MOST_FREQUENCY) {
            throw new IllegalArgumentException("a frequency is 0 to 1000");
        }
        int before = frequencies[number];
        if (frequency != before) {
            frequencies[number] = frequency;
            compiled = false;
        }
        return before;
    }

    public int rules(int filter) throws IllegalArgumentException {
        requireFilter(filter);
        return filters[filter].rules.size();
    }

    public int hider(int filter, int rule) throws IllegalArgumentException, IndexOutOfBoundsException {
        requireFilter(filter);
        requireRule(filter, rule);
        return filters[filter].hiderOf(rule);
    }

    // ---- compiling

    public int compile(int bound) throws IllegalArgumentException {
        if (bound < 0 || bound > MOST_BOUND) {
            throw new IllegalArgumentException("a bound is 0 to 1000");
        }
        // Trees that turn out to be above the bound may be left in the filters:
        // nothing is asked of a tree while compiled is false.
        if (!compiled) {
            planTrees();
        }
        int worstPath = worstPathOfAll();
        if (worstPath > bound) {
            return NONE;
        }
        compiled = true;
        return worstPath;
    }

    public boolean isCompiled() {
        return compiled;
    }

    public int test(int filter, int path) throws IllegalArgumentException, IllegalStateException {
        requireFilter(filter);
        if (path < 1) {
            throw new IllegalArgumentException("a path is 1 or more");
        }
        requireCompiled();
        return filters[filter].numberAt(path);
    }

    public int cost(int filter) throws IllegalArgumentException, IllegalStateException {
        requireFilter(filter);
        requireCompiled();
        return filters[filter].treeCost;
    }

    public int worst(int filter) throws IllegalArgumentException, IllegalStateException {
        requireFilter(filter);
        requireCompiled();
        return filters[filter].worstPath();
    }

    // ---- judging

    public int judge(int number, long first, long second)
            throws IllegalArgumentException, IllegalStateException {
        requireNumber(number);
        requireCompiled();
        int strictest = 0;
        for (Filter filter : filters) {
            strictest = Math.max(strictest, filter.actionByTree(number, first, second));
        }
        return strictest;
    }

    public int judgeByRules(int number, long first, long second) throws IllegalArgumentException {
        requireNumber(number);
        int strictest = 0;
        for (Filter filter : filters) {
            strictest = Math.max(strictest, filter.actionByRules(number, first, second));
        }
        return strictest;
    }

    public int path(int number, long first, long second)
            throws IllegalArgumentException, IllegalStateException {
        requireNumber(number);
        requireCompiled();
        int tests = 0;
        for (Filter filter : filters) {
            tests += filter.pathOf(number, first, second);
        }
        return tests;
    }

    public int actionOf(int filter, int number, long first, long second) throws IllegalArgumentException {
        requireFilter(filter);
        requireNumber(number);
        return filters[filter].actionByRules(number, first, second);
    }

    private void planTrees() {
        for (Filter filter : filters) {
            filter.planTree(planner, frequencies);
        }
    }

    private int worstPathOfAll() {
        int sum = 0;
        for (Filter filter : filters) {
            sum += filter.worstPath();
        }
        return sum;
    }

    private static void requireFilter(int filter) {
        if (filter < 0 || filter >= FILTERS) {
            throw new IllegalArgumentException("a filter is 0 to 3");
        }
    }

    private static void requireNumber(int number) {
        if (number < 0 || number >= NUMBERS) {
            throw new IllegalArgumentException("a number is 0 to 31");
        }
    }

    private static void requireAction(int action) {
        if (action < 0 || action >= ACTIONS) {
            throw new IllegalArgumentException("an action is 0 to 6");
        }
    }

    private void requireRule(int filter, int rule) {
        if (rule < 0 || rule >= filters[filter].rules.size()) {
            throw new IndexOutOfBoundsException("the filter has no such rule");
        }
    }

    private void requireCompiled() {
        if (!compiled) {
            throw new IllegalStateException("not compiled since the last change");
        }
    }

    /** A rule as it was added; it never changes. */
    private static final class Rule {
        private final int number;
        private final int argument;
        private final long mask;
        private final long value;
        private final int action;

        Rule(int number, int argument, long mask, long value, int action) {
            this.number = number;
            this.argument = argument;
            this.mask = mask;
            this.value = value;
            this.action = action;
        }

        boolean matches(long first, long second) {
            return (argumentOf(first, second) & mask) == value;
        }

        boolean canNeverMatch() {
            return (value & ~mask) != 0;
        }

        /** Whether it matches each call that a later rule matches, as far as both alone tell. */
        boolean covers(Rule later) {
            if (number != later.number) {
                return false;
            }
            if (mask == 0 && value == 0) {
                return true;
            }
            return argument == later.argument
                    && (mask & ~later.mask) == 0
                    && (later.value & mask) == value;
        }

        /** How many halves of the argument are tested for a call. */
        int testsFor(long first, long second) {
            boolean lowerFails = (((argumentOf(first, second) & mask) ^ value) & LOWER_HALF) != 0;
            return lowerFails ? lowerTests() : mostTests();
        }

        int mostTests() {
            return lowerTests() + upperTests();
        }

        private int lowerTests() {
            return (mask & LOWER_HALF) != 0 ? 1 : 0;
        }

        private int upperTests() {
            return (mask & ~LOWER_HALF) != 0 ? 1 : 0;
        }

        private long argumentOf(long first, long second) {
            return argument == 0 ? first : second;
        }
    }

    /** One filter: its rules and default, and its tree as it was planned last. */
    private static final class Filter {
        private final ArrayList<Rule> rules = new ArrayList<Rule>();
        private final ArrayList<Rule> reached = new ArrayList<Rule>();
        private int defaultAction;
        private Node firstTest;
        private int treeCost;

        boolean isFull() {
            return rules.size() >= MOST_RULES;
        }

        int append(Rule rule) {
            rules.add(rule);
            return rules.size() - 1;
        }

        int drop(int rule) {
            if (rule >= 0 && rule < rules.size()) {
                rules.remove(rule);
            }
            return rules.size();
        }

        int hiderOf(int rule) {
            if (rule < 0 || rule >= rules.size()) {
                return NONE;
            }
            Rule hidden = rules.get(rule);
            if (hidden.canNeverMatch()) {
                return rule;
            }
            for (int earlier = 0; earlier < rule; earlier++) {
                if (rules.get(earlier).covers(hidden)) {
                    return earlier;
                }
            }
            return NONE;
        }

        void planTree(Planner planner, int[] frequencies) {
            gatherReached();
            planner.startAnew();
            for (int number = 0; number < frequencies.length; number++) {
                if (isReached(number)) {
                    planner.take(number, frequencies[number] + 1);
                }
            }
            planner.weighAllTrees();
            firstTest = planner.bestTree();
            treeCost = planner.leastCost();
        }

        private void gatherReached() {
            reached.clear();
            for (int rule = 0; rule < rules.size(); rule++) {
                if (hiderOf(rule) == NONE) {
                    reached.add(rules.get(rule));
                }
            }
        }

        private boolean isReached(int number) {
            for (int i = 0; i < reached.size(); i++) {
                if (reached.get(i).number == number) {
                    return true;
                }
            }
            return false;
        }

        int numberAt(int path) {
            Node node = firstTest;
            for (int turns = path; turns > 1 && node != null; turns >>= 1) {
                node = (turns & 1) == 0 ? node.lesser : node.greater;
            }
            return node == null ? NONE : node.number;
        }

        /** The greatest over all numbers, those that the tree has not among them. */
        int worstPath() {
            int worstPath = 0;
            for (int number = 0; number < NUMBERS; number++) {
                worstPath = Math.max(worstPath, numberTests(number) + mostRuleTests(number));
            }
            return worstPath;
        }

        int pathOf(int number, long first, long second) {
            int tests = numberTests(number);
            for (int i = 0; i < reached.size(); i++) {
                Rule rule = reached.get(i);
                if (rule.number == number) {
                    tests += rule.testsFor(first, second);
                    if (rule.matches(first, second)) {
                        return tests;
                    }
                }
            }
            return tests;
        }

        int actionByTree(int number, long first, long second) {
            Node last = lastTest(number);
            if (last == null || last.number != number) {
                return defaultAction;
            }
            return actionOfFirstMatch(reached, number, first, second);
        }

        int actionByRules(int number, long first, long second) {
            return actionOfFirstMatch(rules, number, first, second);
        }

        private int actionOfFirstMatch(ArrayList<Rule> tested, int number, long first, long second) {
            for (int i = 0; i < tested.size(); i++) {
                Rule rule = tested.get(i);
                if (rule.number == number && rule.matches(first, second)) {
                    return rule.action;
                }
            }
            return defaultAction;
        }

        private int numberTests(int number) {
            Node last = lastTest(number);
            return last == null ? 0 : last.tests;
        }

        // No rule behind one with the mask 0 is reached, so the sum ends there by itself.
        private int mostRuleTests(int number) {
            int tests = 0;
            for (int i = 0; i < reached.size(); i++) {
                if (reached.get(i).number == number) {
                    tests += reached.get(i).mostTests();
                }
            }
            return tests;
        }

        /** The test of a number that ends the search, whether it finds the number or not. */
        private Node lastTest(int number) {
            Node last = firstTest;
            for (Node node = firstTest; node != null; node = node.towards(number)) {
                last = node;
            }
            return last;
        }
    }

    /** A test of a number in a tree. */
    private static final class Node {
        private final int number;
        /** How many tests are made until this one is done. */
        private final int tests;
        private final Node lesser;
        private final Node greater;

        Node(int number, int tests, Node lesser, Node greater) {
            this.number = number;
            this.tests = tests;
            this.lesser = lesser;
            this.greater = greater;
        }

        /** The next test for a number, null if this one is the last. */
        Node towards(int wanted) {
            if (wanted == number) {
                return null;
            }
            return wanted < number ? lesser : greater;
        }
    }

    /**
     * Finds the tree with the least cost. A row of the tables stands for the first place of a run
     * of numbers, a column for the place behind its last one; the tables are made once for all
     * filters, so that compiling makes nothing but the nodes.
     */
    private static final class Planner {
        private final int[] numbers = new int[MOST_RULES];
        private final int[] weights = new int[MOST_RULES];
        private final int[][] costs = new int[MOST_RULES + 1][MOST_RULES + 1];
        private final int[][] firstPlaces = new int[MOST_RULES + 1][MOST_RULES + 1];
        private int size;

        void startAnew() {
            size = 0;
        }

        /** Takes a number greater than all that were taken before. */
        void take(int number, int weight) {
            if (size < MOST_RULES) {
                numbers[size] = number;
                weights[size] = weight;
                size++;
            }
        }

        // Longer runs are weighed by the costs of shorter ones, so these come first. The empty
        // runs cost 0 from the start, and no loop writes them.
        void weighAllTrees() {
            for (int length = 1; length <= size; length++) {
                for (int from = 0; from + length <= size; from++) {
                    weighTrees(from, from + length);
                }
            }
        }

        private void weighTrees(int from, int to) {
            int best = from;
            for (int place = from + 1; place < to; place++) {
                // Only a lesser cost displaces: of equal ones the lowest number is tested first.
                if (costBelow(from, to, place) < costBelow(from, to, best)) {
                    best = place;
                }
            }
            firstPlaces[from][to] = best;
            costs[from][to] = costBelow(from, to, best) + weightOf(from, to);
        }

        /** The cost of both trees below a first test, each as if it stood alone. */
        private int costBelow(int from, int to, int place) {
            return costs[from][place] + costs[place + 1][to];
        }

        /** What the first test of a run costs, as it is made for each of the numbers. */
        private int weightOf(int from, int to) {
            int sum = 0;
            for (int place = from; place < to; place++) {
                sum += weights[place];
            }
            return sum;
        }

        int leastCost() {
            return costs[0][size];
        }

        Node bestTree() {
            return grow(this, 0, size, 1);
        }

        private static Node grow(Planner plan, int from, int to, int tests) {
            if (from >= to || tests > MOST_RULES) {
                return null;
            }
            int place = plan.firstPlaces[from][to];
            return new Node(
                    plan.numbers[place],
                    tests,
                    grow(plan, from, place, tests + 1),
                    grow(plan, place + 1, to, tests + 1));
        }
    }
}
