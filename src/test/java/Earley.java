import java.util.ArrayList;
import java.util.Arrays;
import java.util.HashMap;
import java.util.HashSet;
import java.util.LinkedHashSet;
import java.util.List;
import java.util.Map;
import java.util.Set;

/**
 * Tells for any grammar which tokens may follow a beginning, by Earley's algorithm: all readings are
 * followed at once, so that it shares nothing with a reader that decides as it goes.
 */
final class Earley {
    private final Map<String, List<String[]>> rules = new HashMap<>();
    private final Set<String> empties = new HashSet<>();
    private final String start;

    /** Lines of the form name = symbols | symbols, where no symbols are the empty text; & stands for the sign |. */
    Earley(String start, String grammar) {
        this.start = start;
        for (String line : grammar.split("\n")) {
            int split = line.indexOf(" = ");
            List<String[]> choices = rules.computeIfAbsent(line.substring(0, split).trim(), name -> new ArrayList<>());
            for (String choice : line.substring(split + 2).split(" \\|", -1)) {
                String text = choice.trim();
                choices.add(text.isEmpty() ? new String[0] : text.split(" +"));
            }
        }
        findEmpties();
    }

    private void findEmpties() {
        boolean more = true;
        while (more) {
            more = false;
            for (Map.Entry<String, List<String[]>> rule : rules.entrySet()) {
                for (String[] choice : rule.getValue()) {
                    more |= empties.containsAll(Arrays.asList(choice)) && empties.add(rule.getKey());
                }
            }
        }
    }

    private record Item(String name, String[] symbols, int dot, int origin) {
        String next() {
            return dot < symbols.length ? symbols[dot] : null;
        }

        Item moved() {
            return new Item(name, symbols, dot + 1, origin);
        }
    }

    /** What may stand behind a beginning of a text. */
    final class Beginning {
        private final List<Set<Item>> sets = new ArrayList<>();

        Beginning() {
            Set<Item> first = new LinkedHashSet<>();
            predict(start, 0, first);
            sets.add(closed(first, 0));
        }

        private void predict(String name, int origin, Set<Item> into) {
            for (String[] choice : rules.get(name)) {
                into.add(new Item(name, choice, 0, origin));
            }
        }

        private Set<Item> closed(Set<Item> items, int at) {
            List<Item> waiting = new ArrayList<>(items);
            Set<Item> predicted = new LinkedHashSet<>();
            for (int k = 0; k < waiting.size(); k++) {
                Item item = waiting.get(k);
                predicted.clear();
                if (item.next() == null) {
                    Set<Item> from = item.origin() == at ? new LinkedHashSet<>(waiting) : sets.get(item.origin());
                    for (Item before : from) {
                        if (item.name().equals(before.next())) {
                            predicted.add(before.moved());
                        }
                    }
                } else if (rules.containsKey(item.next())) {
                    predict(item.next(), at, predicted);
                    if (empties.contains(item.next())) {
                        predicted.add(item.moved());
                    }
                }
                for (Item one : predicted) {
                    if (items.add(one)) {
                        waiting.add(one);
                    }
                }
            }
            return items;
        }

        private Set<Item> last() {
            return sets.get(sets.size() - 1);
        }

        /** The symbols without rules that may stand here. */
        Set<String> next() {
            Set<String> all = new LinkedHashSet<>();
            for (Item item : last()) {
                if (item.next() != null && !rules.containsKey(item.next())) {
                    all.add(item.next());
                }
            }
            return all;
        }

        boolean mayEnd() {
            for (Item item : last()) {
                if (item.next() == null && item.origin() == 0 && item.name().equals(start)) {
                    return true;
                }
            }
            return false;
        }

        void take(String symbol) {
            Set<Item> moved = new LinkedHashSet<>();
            for (Item item : last()) {
                if (symbol.equals(item.next())) {
                    moved.add(item.moved());
                }
            }
            sets.add(closed(moved, sets.size()));
        }
    }
}
