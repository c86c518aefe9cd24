import java.util.ArrayList;
import java.util.Arrays;
import java.util.HashSet;
import java.util.List;
import java.util.Random;
import java.util.Set;

/** Random modules, and terms and strategies for the latest of them; most are without a fault. */
final class RandomTexts {
    private static final String[] SPOILERS = {".", ":", "->", "=", "=>", ":=", "if", "/\\", "(", ")", "[", "]", "{", "}", ",", "sort", "subsort", "var",
        "op", "eq", "oeq", "rl", "<", "assoc", "comm", "id", "prec", "gather", "&", "e", "E", "7", "41", "100", "_", "_ _", "__", "_a_", "a", "b", "c",
        "X0", "X1", "A", "B", "C", "f", "s_", "+", "x", "***", "***x\n", "abcdefghijklmnop", "abcdefghijklmnopq", "\1", "x\177y", "\351", "\n", "\t"};
    /** WORDS that mean something in a STRATEGY, and can be LABELS besides. */
    private static final String[] LABELS = {"not", "one", "not", "one", "idle", "fail", "all", "*", "!", ";", "|"};
    private static final String[] CONSTANTS = {"a", "b", "c", "0", "n"};
    private static final String[] FORMS = {"s_", "f", "_ + _", "_ _", "_ ; _", "g", "h", "k", "_ !", "[ _ ]", "_ * _", "l", "i_t_e_"};

    private static final class Op {
        String form;
        int[] groups;
        int group;
    }

    private final Random random;
    private final List<String> sorts = new ArrayList<>();
    /** Sorts of one group are joined by subsorts. */
    private final List<Integer> groupOf = new ArrayList<>();
    private int groups;
    private final List<Op> ops = new ArrayList<>();
    private final List<String> variables = new ArrayList<>();
    private final List<Integer> variableGroup = new ArrayList<>();
    private StringBuilder text;
    /** The variables of what was made since it was emptied. */
    private Set<String> used = new HashSet<>();

    RandomTexts(Random random) {
        this.random = random;
    }

    int any(int many) {
        return random.nextInt(many);
    }

    boolean often(int percent) {
        return random.nextInt(100) < percent;
    }

    private <T> T any(List<T> list) {
        return list.get(any(list.size()));
    }

    private void clear() {
        sorts.clear();
        groupOf.clear();
        ops.clear();
        variables.clear();
        variableGroup.clear();
        text = new StringBuilder();
    }

    private String sortOf(int group) {
        List<String> found = new ArrayList<>();
        for (int k = 0; k < sorts.size(); k++) {
            if (groupOf.get(k) == group) {
                found.add(sorts.get(k));
            }
        }
        return any(found);
    }

    // modules

    /** Any operators; free ones have no assoc, hardly an id, and plain equations, so that PAIRS are looked at. */
    String module(boolean free) {
        clear();
        tellSorts(1 + any(5));
        for (int k = 0; k < 2 + any(4); k++) {
            tellOp(CONSTANTS[k % CONSTANTS.length], new int[0], k < groups ? k : any(groups), "", 0);
        }
        Set<String> told = new HashSet<>();
        for (int k = 0; k < 2 + any(6); k++) {
            String form = FORMS[any(FORMS.length)];
            if (told.add(form)) {
                tellOp(form, free);
            }
        }
        tellVariables(1 + any(6));
        text.append(often(20) ? "\n*** a remark (\n" : "");
        int laws = any(6);
        for (int k = 0; k < laws; k++) {
            tellLaw(free || often(85) ? "eq" : "oeq", "=", free ? 0 : 30);
        }
        tellRules(any(5));
        return text.toString();
    }

    /** Few operators, so that rows are long and patterns have many variables. */
    String rows() {
        clear();
        groups = 1;
        sorts.addAll(List.of("A", "B", "C"));
        groupOf.addAll(List.of(0, 0, 0));
        text.append("sort A B C . subsort A < B ").append(often(50) ? "< C . " : ". subsort C < B . ");
        for (String constant : new String[] {"a", "b", "c", "n"}) {
            tellOp(constant, new int[0], 0, "", 0);
        }
        tellOp("_ _", new int[] {0, 0}, 0, (often(80) ? " assoc" : "") + (often(60) ? " comm" : "") + (often(60) ? " id n" : ""), any(2));
        if (often(50)) {
            String list = (often(50) ? " assoc" : "") + (often(50) ? " comm" : "") + (often(40) ? " id " + "abcn".charAt(any(4)) : "");
            tellOp("_ + _", new int[] {0, 0}, 0, list + (often(50) ? " prec 50" : ""), any(2));
        }
        if (often(60)) {
            tellOp("f", new int[] {0}, 0, "", 0);
        }
        if (often(30)) {
            tellOp("g", new int[] {0, 0}, 0, often(50) ? " comm" : "", 0);
        }
        tellVariables(2 + any(5));
        int laws = any(4);
        for (int k = 0; k < laws; k++) {
            tellLaw(often(80) ? "eq" : "oeq", "=", 40);
        }
        tellRules(any(5));
        return text.toString();
    }

    private void tellSorts(int many) {
        groups = many < 2 || often(70) ? 1 : 2;
        text.append("sort");
        for (int k = 0; k < many; k++) {
            sorts.add(String.valueOf((char) ('A' + k)));
            groupOf.add(k < groups ? k : any(groups));
            text.append(' ').append(sorts.get(k));
        }
        text.append(" . ");
        List<Integer> heights = new ArrayList<>();
        for (int k = 0; k < many; k++) {
            heights.add(any(1000) * 10 + k);
            for (int links = often(40) ? 2 : 1; links > 0; links--) {
                int j = any(k + 1);
                if (j == k || !groupOf.get(j).equals(groupOf.get(k))) {
                    j = groupOf.get(k) < k ? groupOf.get(k) : k;
                }
                if (j != k) {
                    boolean below = heights.get(j) < heights.get(k);
                    text.append("subsort ").append(sorts.get(below ? j : k)).append(" < ").append(sorts.get(below ? k : j)).append(" . ");
                }
            }
        }
    }

    private void tellOp(String form, boolean free) {
        int holes = form.length() - form.replace("_", "").length();
        holes = holes > 0 ? holes : form.equals("f") || form.equals("l") ? 1 : form.equals("k") ? 3 : 2;
        int group = any(groups);
        int[] of = new int[holes];
        for (int k = 0; k < holes; k++) {
            of[k] = often(90) ? group : any(groups);
        }
        int result = often(85) ? group : any(groups);
        StringBuilder list = new StringBuilder();
        if (holes == 2 && of[0] == of[1]) {
            boolean closed = result == of[0];
            list.append(closed && often(free ? 5 : 55) ? " assoc" : "").append(often(free ? 25 : 50) ? " comm" : "");
            list.append(closed && often(free ? 5 : 45) ? " id " + constantOf(result) : "");
        }
        list.append(often(30) ? " prec " + any(60) : "");
        if (often(15)) {
            list.append(" gather");
            for (int k = 0; k < holes; k++) {
                list.append(' ').append("&eE".charAt(any(3)));
            }
        }
        tellOp(form, of, result, list.toString(), often(35) ? 1 + any(2) : 0);
    }

    private String constantOf(int group) {
        List<String> found = new ArrayList<>();
        for (Op op : ops) {
            if (op.groups.length == 0 && op.group == group) {
                found.add(op.form);
            }
        }
        return found.isEmpty() ? "a" : any(found);
    }

    private void tellOp(String form, int[] of, int result, String list, int more) {
        Op op = new Op();
        op.form = form;
        op.groups = of;
        op.group = result;
        ops.add(op);
        Set<String> rows = new HashSet<>();
        for (int k = 0; k <= more; k++) {
            StringBuilder row = new StringBuilder();
            for (int group : of) {
                row.append(sortOf(group)).append(' ');
            }
            if (rows.add(row.toString()) || often(5)) {
                text.append("op ").append(form).append(" : ").append(row).append("-> ").append(sortOf(result));
                text.append(list.isEmpty() ? "" : " [" + list + " ]").append(" . ");
            }
        }
    }

    private void tellVariables(int many) {
        for (int k = 0; k < many; k++) {
            variables.add("X" + k);
            variableGroup.add(k < groups ? k : any(groups));
            text.append("var X").append(k).append(" : ").append(sortOf(variableGroup.get(k))).append(" . ");
        }
    }

    private void tellRules(int many) {
        for (int k = 0; k < many; k++) {
            tellLaw("rl " + label() + " :", "=>", 30);
        }
    }

    private void tellLaw(String what, String sign, int withParts) {
        int group = any(groups);
        String left = null;
        for (int tries = 0; tries < 20 && (left == null || variables.contains(left)); tries++) {
            used = new HashSet<>();
            left = term(group, 1 + any(3), null);
        }
        if (left == null || (variables.contains(left) && often(95))) {
            return;
        }
        Set<String> known = new HashSet<>(used);
        StringBuilder parts = new StringBuilder();
        int many = often(withParts) ? 1 + any(3) : 0;
        for (int k = 0; k < many; k++) {
            String part = part(known);
            if (part != null) {
                parts.append(parts.length() == 0 ? " if " : " /\\ ").append(part);
            }
        }
        String right = term(group, any(3), often(97) ? known : null);
        if (right != null) {
            text.append(what).append(' ').append(left).append(' ').append(sign).append(' ').append(right).append(parts).append(" . ");
        }
    }

    private String part(Set<String> known) {
        int group = any(groups);
        int what = any(3);
        used = new HashSet<>();
        String t = term(group, any(3), what == 1 ? null : known);
        Set<String> fresh = new HashSet<>(used);
        String u = term(group, any(3), known);
        if (t == null || u == null) {
            return null;
        }
        if (what == 1) {
            known.addAll(fresh);
        }
        return what == 2 ? t + " : " + sortOf(group) : t + (what == 1 ? " := " : " = ") + u;
    }

    // terms

    /** A term of any sort, with variables or without. */
    String term(int depth, boolean withVariables) {
        String made = term(any(groups), depth, withVariables ? null : Set.of());
        return made == null ? "a" : made;
    }

    /** A term of a group with some of these variables (null: all); null: none was found. */
    private String term(int group, int depth, Set<String> from) {
        List<String> found = new ArrayList<>();
        for (int v = 0; v < variables.size(); v++) {
            if (variableGroup.get(v) == group && (from == null || from.contains(variables.get(v)))) {
                found.add(variables.get(v));
            }
        }
        List<Op> fit = new ArrayList<>();
        List<Op> flat = new ArrayList<>();
        for (Op op : ops) {
            if (op.group == group) {
                (op.groups.length > 0 ? fit : flat).add(op);
            }
        }
        if (depth <= 0 || fit.isEmpty() || often(20)) {
            fit = flat;
        }
        if (!found.isEmpty() && (fit.isEmpty() || often(depth <= 0 ? 60 : 25))) {
            String variable = any(found);
            used.add(variable);
            return variable;
        }
        return fit.isEmpty() ? null : written(any(fit), depth, from);
    }

    private String written(Op op, int depth, Set<String> from) {
        List<String> row = new ArrayList<>();
        for (int group : op.groups) {
            String inner = term(group, depth - 1 - (often(30) ? 1 : 0), from);
            if (inner == null) {
                return null;
            }
            row.add(inner);
        }
        if (op.form.indexOf('_') < 0) {
            return row.isEmpty() ? op.form : op.form + " ( " + String.join(" , ", row) + " )";
        }
        StringBuilder made = new StringBuilder();
        int hole = 0;
        for (char c : op.form.toCharArray()) {
            if (c == '_') {
                String inner = row.get(hole);
                made.append(inner.indexOf(' ') < 0 || often(25) ? " " + inner + " " : " ( " + inner + " ) ");
                hole++;
            } else {
                made.append(c);
            }
        }
        return made.toString().trim().replaceAll(" +", " ");
    }

    /** A long row of the operators that rows() tells. */
    String row() {
        String between = ops.size() > 5 && ops.get(5).form.equals("_ + _") && often(40) ? " + " : " ";
        boolean pattern = often(40);
        StringBuilder made = new StringBuilder();
        int many = 2 + any(6);
        for (int k = 0; k < many; k++) {
            String one = pattern && often(80) ? any(variables) : often(75) ? "" + "abcn".charAt(any(4)) : term(1, pattern);
            made.append(k == 0 ? "" : between).append(one.indexOf(' ') < 0 ? one : "( " + one + " )");
        }
        return made.toString();
    }

    /** Words of a term without its brackets, so that STRENGTHS count; often in another order. */
    String loose() {
        String made = term(2 + any(3), true).replaceAll("[()] ?", "").trim();
        if (often(70)) {
            return made;
        }
        String[] words = made.split(" ");
        StringBuilder mixed = new StringBuilder();
        int many = 1 + any(14);
        for (int k = 0; k < many; k++) {
            mixed.append(words[any(words.length)]).append(' ');
        }
        return mixed.toString();
    }

    private String label() {
        return often(80) ? "" + "xyz".charAt(any(3)) : LABELS[any(LABELS.length)];
    }

    String strategy(int depth) {
        String a = depth > 0 ? strategy(depth - 1) : "";
        switch (any(depth > 0 ? 10 : 4)) {
            case 0: return "idle";
            case 1: return often(30) ? "fail" : "all";
            case 2:
            case 3: return label();
            case 4: return a + " | " + strategy(depth - 1);
            case 5: return a + " ; " + strategy(depth - 1);
            case 6: return "( " + a + " ) *";
            case 7: return "( " + a + " ) !";
            case 8: return "not ( " + a + " )";
            default: return "one ( " + a + " )";
        }
    }

    /** A text with a word or two that are not as they were. */
    String spoilt(String good) {
        List<String> words = new ArrayList<>(Arrays.asList(good.split("(?<=\n)|(?=\n)| ")));
        for (int many = often(30) ? 2 : 1; many > 0; many--) {
            int at = any(words.size());
            int other = any(words.size());
            String word = words.get(at);
            switch (any(5)) {
                case 0: words.set(at, ""); break;
                case 1: words.add(at, SPOILERS[any(SPOILERS.length)]); break;
                case 2: words.set(at, SPOILERS[any(SPOILERS.length)]); break;
                case 3: words.set(at, words.get(other)); break;
                default:
                    words.set(at, words.get(other));
                    words.set(other, word);
                    break;
            }
        }
        return String.join(" ", words);
    }
}
