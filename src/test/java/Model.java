import java.util.ArrayList;
import java.util.List;

/**
 * The document's terms written down as slowly and literally as they can be: hiding, trees (each
 * tree there is, one by one), paths and worst paths. ModelTest compares the class with it.
 */
final class Model {
    record Rule(int number, int argument, long mask, long value, int action) {
        boolean matches(int called, long first, long second) {
            return called == number && ((argument == 0 ? first : second) & mask) == value;
        }
    }

    record Tree(int number, Tree lesser, Tree greater) {
    }

    final List<List<Rule>> rules = new ArrayList<>();
    final int[] defaults = new int[4];
    final int[] frequencies = new int[32];
    boolean compiled = false;
    private final Tree[] trees = new Tree[4];

    Model() {
        for (int filter = 0; filter < 4; filter++) {
            rules.add(new ArrayList<>());
        }
    }

    int hider(int filter, int rule) {
        Rule hidden = rules.get(filter).get(rule);
        for (int bit = 0; bit < 64; bit++) {
            if ((hidden.value() >> bit & 1) == 1 && (hidden.mask() >> bit & 1) == 0) {
                return rule;
            }
        }
        for (int i = 0; i < rule; i++) {
            Rule earlier = rules.get(filter).get(i);
            if (earlier.number() == hidden.number() && hides(earlier, hidden)) {
                return i;
            }
        }
        return -1;
    }

    private static boolean hides(Rule earlier, Rule hidden) {
        if (earlier.mask() == 0 && earlier.value() == 0) {
            return true;
        }
        return earlier.argument() == hidden.argument()
                && (earlier.mask() | hidden.mask()) == hidden.mask()
                && (hidden.value() & earlier.mask()) == earlier.value();
    }

    private List<Rule> reached(int filter, int number) {
        List<Rule> reached = new ArrayList<>();
        for (int rule = 0; rule < rules.get(filter).size(); rule++) {
            if (hider(filter, rule) == -1 && rules.get(filter).get(rule).number() == number) {
                reached.add(rules.get(filter).get(rule));
            }
        }
        return reached;
    }

    int compile(int bound) {
        Tree[] before = trees.clone();
        int sum = 0;
        for (int filter = 0; filter < 4; filter++) {
            trees[filter] = bestTree(filter);
            sum += worst(filter);
        }
        if (sum > bound) {
            System.arraycopy(before, 0, trees, 0, 4);
            return -1;
        }
        compiled = true;
        return sum;
    }

    private Tree bestTree(int filter) {
        List<Integer> numbers = new ArrayList<>();
        for (int number = 0; number < 32; number++) {
            if (!reached(filter, number).isEmpty()) {
                numbers.add(number);
            }
        }
        Tree best = null;
        for (Tree tree : allTrees(numbers)) {
            // allTrees lists trees with a lower first number first, and likewise below.
            if (best == null || cost(tree, 1) < cost(best, 1)) {
                best = tree;
            }
        }
        return best;
    }

    private static List<Tree> allTrees(List<Integer> numbers) {
        List<Tree> all = new ArrayList<>();
        if (numbers.isEmpty()) {
            all.add(null);
        }
        for (int i = 0; i < numbers.size(); i++) {
            List<Tree> greater = allTrees(numbers.subList(i + 1, numbers.size()));
            for (Tree below : allTrees(numbers.subList(0, i))) {
                for (Tree above : greater) {
                    all.add(new Tree(numbers.get(i), below, above));
                }
            }
        }
        return all;
    }

    private int cost(Tree tree, int tests) {
        if (tree == null) {
            return 0;
        }
        return (1 + frequencies[tree.number()]) * tests
                + cost(tree.lesser(), tests + 1) + cost(tree.greater(), tests + 1);
    }

    int cost(int filter) {
        return cost(trees[filter], 1);
    }

    int test(int filter, int path) {
        Tree tree = trees[filter];
        String turns = new StringBuilder(Integer.toBinaryString(path)).reverse().toString();
        for (int i = 0; i + 1 < turns.length(); i++) {
            if (tree == null) {
                return -1;
            }
            tree = turns.charAt(i) == '0' ? tree.lesser() : tree.greater();
        }
        return tree == null ? -1 : tree.number();
    }

    private static int numberTests(Tree tree, int number) {
        if (tree == null) {
            return 0;
        }
        if (tree.number() == number) {
            return 1;
        }
        return 1 + numberTests(number < tree.number() ? tree.lesser() : tree.greater(), number);
    }

    int worst(int filter) {
        int worst = 0;
        for (int number = 0; number < 32; number++) {
            int tests = numberTests(trees[filter], number);
            for (Rule rule : reached(filter, number)) {
                if (rule.mask() == 0) {
                    break;
                }
                tests += ((int) rule.mask() != 0 ? 1 : 0) + ((int) (rule.mask() >> 32) != 0 ? 1 : 0);
            }
            worst = Math.max(worst, tests);
        }
        return worst;
    }

    int path(int number, long first, long second) {
        int tests = 0;
        for (int filter = 0; filter < 4; filter++) {
            tests += path(filter, number, first, second);
        }
        return tests;
    }

    private int path(int filter, int number, long first, long second) {
        int tests = numberTests(trees[filter], number);
        for (Rule rule : reached(filter, number)) {
            long argument = rule.argument() == 0 ? first : second;
            int[] masks = {(int) rule.mask(), (int) (rule.mask() >> 32)};
            int[] values = {(int) rule.value(), (int) (rule.value() >> 32)};
            int[] halves = {(int) argument, (int) (argument >> 32)};
            boolean matches = true;
            for (int half = 0; half < 2 && matches; half++) {
                if (masks[half] != 0) {
                    tests++;
                    matches = (halves[half] & masks[half]) == values[half];
                }
            }
            if (matches) {
                return tests;
            }
        }
        return tests;
    }

    int action(int filter, int number, long first, long second) {
        for (Rule rule : rules.get(filter)) {
            if (rule.matches(number, first, second)) {
                return rule.action();
            }
        }
        return defaults[filter];
    }

    int judge(int number, long first, long second) {
        int strictest = 0;
        for (int filter = 0; filter < 4; filter++) {
            strictest = Math.max(strictest, action(filter, number, first, second));
        }
        return strictest;
    }
}
