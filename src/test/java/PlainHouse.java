import java.util.ArrayList;
import java.util.Arrays;
import java.util.Collections;
import java.util.Comparator;
import java.util.HashMap;
import java.util.HashSet;
import java.util.LinkedHashMap;
import java.util.List;
import java.util.Map;
import java.util.Set;
import java.util.TreeMap;
import java.util.function.Predicate;

/** The document once more, as plainly as can be, and slowly: what it answers is compared with what the class answers. */
final class PlainHouse {
    static final int BAD = -1, NONE = -2, FULL = -3, DOUBT = -4;
    private static final String HOLE = "";
    private static final Set<String> RESERVED = Set.of(".", ":", "->", "=", "=>", ":=", "if", "/\\");
    private static final Set<String> SIGNS = Set.of("(", ")", "[", "]", "{", "}", ",");

    private static final class Fault extends RuntimeException {
        private static final long serialVersionUID = 1L;
        final int code;
        final int place;

        Fault(int code, int place) {
            super(null, null, false, false);
            this.code = code;
            this.place = place;
        }
    }

    private static final class Stop extends RuntimeException {
        private static final long serialVersionUID = 1L;
        final int code;

        Stop(int code) {
            super(null, null, false, false);
            this.code = code;
        }
    }

    // ---- what a module has

    private static final class Op {
        int number;
        List<String> form = new ArrayList<>();
        int holes;
        int[] kinds;
        int kind;
        boolean assoc;
        boolean comm;
        Op id;
        int strength;
        int[] takes;
        /** SORTS, then the SORT. */
        List<int[]> rows = new ArrayList<>();
        Map<String, Object> attributes;
    }

    private static final class Term {
        int variable = -1;
        Op op;
        List<Term> row = List.of();
        String key;
        int size = 1;
        int least;
        Set<Integer> vars = Set.of();

        boolean isVariable() {
            return variable >= 0;
        }
    }

    private static final class Part {
        String sign;
        Term t;
        Term u;
        int sort;
    }

    private static final class Law {
        Term left;
        Term right;
        List<Part> parts = new ArrayList<>();
        String label;
        boolean ordinary;
        int number;
    }

    private List<String> sorts = new ArrayList<>();
    private boolean[][] under = new boolean[0][0];
    private int[] kindOf = new int[0];
    private int kinds;
    private List<Op> ops = new ArrayList<>();
    private int rowCount;
    private List<String> variables = new ArrayList<>();
    private List<Integer> variableSorts = new ArrayList<>();
    private List<Law> equations = new ArrayList<>();
    private List<Law> rules = new ArrayList<>();

    // ---- what an object has

    private final List<Integer> tape = new ArrayList<>();
    private final List<Term> handles = new ArrayList<>();
    private int faultPlace = NONE;
    private int faultLine = NONE;
    private int latestStop;
    private int latestSteps;
    private String resultKind = "";
    private List<Matcher> matchersKept = new ArrayList<>();
    private List<Term> results = new ArrayList<>();
    private List<int[]> ways = new ArrayList<>();
    private List<List<Integer>> edges = new ArrayList<>();

    // ---- texts

    int feed(int a, int b, int c, int d, int e) {
        if (tape.size() + 20 > 6000) {
            return FULL;
        }
        for (int n : new int[] {a, b, c, d, e}) {
            for (int shift = 24; shift >= 0; shift -= 8) {
                tape.add(n >> shift & 255);
            }
        }
        return tape.size();
    }

    int end(int n) {
        if (n < 0 || n > 20 || tape.size() < 20) {
            return BAD;
        }
        for (int k = n; k < 20; k++) {
            tape.remove(tape.size() - 1);
        }
        return tape.size();
    }

    private static final class Word {
        String text;
        int at;
        int bad = -1;
    }

    private List<Word> words;
    private int at;
    private int limit;

    private void split(int most) {
        words = new ArrayList<>();
        at = 0;
        limit = most;
        int p = 0;
        while (p < tape.size()) {
            int b = tape.get(p);
            if (b == 32 || b == 10) {
                p++;
                continue;
            }
            int q = p + 1;
            if (!SIGNS.contains(String.valueOf((char) b))) {
                while (q < tape.size() && tape.get(q) != 32 && tape.get(q) != 10 && !SIGNS.contains(String.valueOf((char) (int) tape.get(q)))) {
                    q++;
                }
            }
            StringBuilder text = new StringBuilder();
            for (int k = p; k < q; k++) {
                text.append((char) (int) tape.get(k));
            }
            if (text.toString().startsWith("***")) {
                while (p < tape.size() && tape.get(p) != 10) {
                    p++;
                }
                continue;
            }
            Word word = new Word();
            word.text = text.toString();
            word.at = p;
            for (int k = q - 1; k >= p; k--) {
                if (tape.get(k) < 33 || tape.get(k) > 126) {
                    word.bad = k;
                }
            }
            if (q - p > 16) {
                word.bad = p;
            }
            words.add(word);
            p = q;
        }
    }

    /** The word there; null: none, or one that is spoilt. */
    private String word() {
        return at < words.size() && words.get(at).bad < 0 ? words.get(at).text : null;
    }

    private int place() {
        return at < words.size() ? words.get(at).at : tape.size();
    }

    private Fault wrong() {
        return new Fault(1, at < words.size() && words.get(at).bad >= 0 ? words.get(at).bad : place());
    }

    private void take() {
        if (at >= limit) {
            throw new Fault(2, place());
        }
        at++;
    }

    private void need(String wanted) {
        if (!wanted.equals(word())) {
            throw wrong();
        }
        take();
    }

    private boolean isPlain() {
        return word() != null && !RESERVED.contains(word()) && !SIGNS.contains(word());
    }

    private String plain() {
        if (!isPlain()) {
            throw wrong();
        }
        String text = word();
        take();
        return text;
    }

    /** A row of WORDS of a T: from, to. */
    private int[] row() {
        int from = at;
        if (word() == null || RESERVED.contains(word())) {
            throw wrong();
        }
        int first = place();
        while (word() != null && !RESERVED.contains(word())) {
            if (at - from == 32) {
                throw new Fault(2, first);
            }
            take();
        }
        return new int[] {from, at};
    }

    private static final class Statement {
        String what;
        int place;
        List<int[]> names = new ArrayList<>();
        int[] left;
        int[] right;
        String label;
        List<Object[]> parts = new ArrayList<>();
        int formFrom;
        int formTo;
        int sortsFrom;
        int sortsTo;
        int sort;
        Map<String, Object> attributes = new TreeMap<>();
        boolean twice;
        List<String> form;
    }

    private List<Statement> statements() {
        List<Statement> all = new ArrayList<>();
        int[] many = new int[5];
        while (at < words.size()) {
            Statement s = new Statement();
            s.what = word();
            s.place = place();
            if (s.what == null || !Set.of("sort", "subsort", "var", "op", "eq", "oeq", "rl").contains(s.what)) {
                throw wrong();
            }
            switch (s.what) {
                case "op":
                    count(many, 1, 50);
                    break;
                case "eq":
                case "oeq":
                    count(many, 3, 40);
                    break;
                case "rl":
                    count(many, 4, 30);
                    break;
                default:
                    break;
            }
            take();
            switch (s.what) {
                case "sort":
                    s.names.add(names(many, 0, 20, false));
                    break;
                case "subsort":
                    s.names.add(names(many, -1, 0, true));
                    do {
                        need("<");
                        s.names.add(names(many, -1, 0, true));
                    } while ("<".equals(word()));
                    break;
                case "var":
                    s.names.add(names(many, 2, 30, false));
                    need(":");
                    s.sort = at;
                    plain();
                    break;
                case "op":
                    readOp(s);
                    break;
                case "rl":
                    s.label = plain();
                    need(":");
                    readSides(s, "=>");
                    break;
                default:
                    readSides(s, "=");
                    break;
            }
            need(".");
            all.add(s);
        }
        return all;
    }

    private void count(int[] many, int what, int most) {
        many[what]++;
        if (many[what] > most) {
            throw new Fault(2, place());
        }
    }

    private int[] names(int[] many, int what, int most, boolean lessEnds) {
        int from = at;
        while (isPlain() && !(lessEnds && word().equals("<"))) {
            if (what >= 0) {
                count(many, what, most);
            }
            take();
        }
        if (at == from) {
            throw wrong();
        }
        return new int[] {from, at};
    }

    private void readOp(Statement s) {
        s.formFrom = at;
        while (word() != null && !RESERVED.contains(word())) {
            take();
        }
        s.formTo = at;
        need(":");
        s.sortsFrom = at;
        while (isPlain()) {
            take();
        }
        s.sortsTo = at;
        need("->");
        s.sort = at;
        plain();
        if (!"[".equals(word())) {
            return;
        }
        take();
        do {
            String told = word();
            if (told == null || !Set.of("assoc", "comm", "id", "prec", "gather").contains(told)) {
                throw wrong();
            }
            take();
            Object value = "";
            if (told.equals("id")) {
                value = plain();
            } else if (told.equals("prec")) {
                if (word() == null || !word().matches("[0-9][0-9]?")) {
                    throw wrong();
                }
                value = Integer.parseInt(word());
                take();
            } else if (told.equals("gather")) {
                StringBuilder letters = new StringBuilder();
                while (word() != null && Set.of("&", "e", "E").contains(word())) {
                    letters.append(word());
                    take();
                }
                value = letters.toString();
            }
            s.twice |= s.attributes.containsKey(told);
            s.attributes.put(told, value);
        } while (!"]".equals(word()));
        take();
    }

    private void readSides(Statement s, String sign) {
        s.left = row();
        need(sign);
        s.right = row();
        if (!"if".equals(word())) {
            return;
        }
        do {
            take();
            if (s.parts.size() == 6 && word() != null && !RESERVED.contains(word())) {
                throw new Fault(2, place());
            }
            int[] t = row();
            String between = word();
            if (between == null || !Set.of("=", ":=", ":").contains(between)) {
                throw wrong();
            }
            take();
            int[] u = new int[] {at, at};
            if (between.equals(":")) {
                plain();
            } else {
                u = row();
            }
            s.parts.add(new Object[] {between, t, u});
        } while ("/\\".equals(word()));
    }

    int module() {
        handles.clear();
        resultKind = "";
        matchersKept.clear();
        results.clear();
        latestStop = 0;
        pairsJudged = false;
        int answer;
        try {
            nothing();
            split(900);
            load(statements());
            noFault();
            answer = ops.size();
        } catch (Fault f) {
            nothing();
            tellFault(f);
            answer = -10 - f.code;
        }
        tape.clear();
        return answer;
    }

    private void nothing() {
        sorts = new ArrayList<>();
        kinds = 0;
        ops = new ArrayList<>();
        rowCount = 0;
        variables = new ArrayList<>();
        variableSorts = new ArrayList<>();
        equations = new ArrayList<>();
        rules = new ArrayList<>();
    }

    private void noFault() {
        faultPlace = NONE;
        faultLine = NONE;
    }

    private void tellFault(Fault f) {
        faultPlace = f.place;
        faultLine = 1;
        for (int k = 0; k < f.place; k++) {
            faultLine += tape.get(k) == 10 ? 1 : 0;
        }
    }

    private String textAt(int word) {
        return words.get(word).text;
    }

    private int placeAt(int word) {
        return words.get(word).at;
    }

    private void load(List<Statement> all) {
        List<int[]> faults = new ArrayList<>();
        for (Statement s : all) {
            if (s.what.equals("sort")) {
                for (int w = s.names.get(0)[0]; w < s.names.get(0)[1]; w++) {
                    if (sorts.contains(textAt(w))) {
                        faults.add(new int[] {placeAt(w), 3});
                    } else {
                        sorts.add(textAt(w));
                    }
                }
            }
        }
        int n = sorts.size();
        under = new boolean[n][n];
        for (int k = 0; k < n; k++) {
            under[k][k] = true;
        }
        boolean[][] direct = new boolean[n][n];
        for (Statement s : all) {
            switch (s.what) {
                case "subsort":
                    loadSubsort(s, direct, faults);
                    break;
                case "var":
                    for (int w = s.names.get(0)[0]; w < s.names.get(0)[1]; w++) {
                        if (variables.contains(textAt(w))) {
                            faults.add(new int[] {placeAt(w), 3});
                        }
                        variables.add(textAt(w));
                        variableSorts.add(sorts.indexOf(textAt(s.sort)));
                    }
                    lookForSort(s.sort, faults);
                    break;
                case "op":
                    s.form = formOf(s);
                    if (s.form == null) {
                        faults.add(new int[] {s.place, 3});
                    }
                    for (int w = s.sortsFrom; w < s.sortsTo; w++) {
                        lookForSort(w, faults);
                    }
                    lookForSort(s.sort, faults);
                    break;
                default:
                    for (Object[] part : s.parts) {
                        if (part[0].equals(":")) {
                            lookForSort(((int[]) part[2])[0], faults);
                        }
                    }
                    break;
            }
        }
        faults.sort((a, b) -> a[0] != b[0] ? a[0] - b[0] : a[1] - b[1]);
        if (!faults.isEmpty()) {
            throw new Fault(faults.get(0)[1], faults.get(0)[0]);
        }
        tellKinds(direct);
        loadOps(all);
        for (Statement s : all) {
            if (s.left != null) {
                loadLaw(s);
            }
        }
    }

    private void lookForSort(int w, List<int[]> faults) {
        if (!sorts.contains(textAt(w))) {
            faults.add(new int[] {placeAt(w), 4});
        }
    }

    private void loadSubsort(Statement s, boolean[][] direct, List<int[]> faults) {
        for (int k = 0; k < s.names.size(); k++) {
            for (int w = s.names.get(k)[0]; w < s.names.get(k)[1]; w++) {
                lookForSort(w, faults);
            }
        }
        for (int k = 0; k + 1 < s.names.size(); k++) {
            int[] low = s.names.get(k);
            int[] high = s.names.get(k + 1);
            for (int a = low[0]; a < low[1]; a++) {
                for (int b = high[0]; b < high[1]; b++) {
                    int x = sorts.indexOf(textAt(a));
                    int y = sorts.indexOf(textAt(b));
                    if (x >= 0 && y >= 0) {
                        direct[x][y] = true;
                    }
                }
            }
            boolean[][] closed = closed(direct);
            for (int x = 0; x < sorts.size(); x++) {
                if (closed[x][x]) {
                    faults.add(new int[] {placeAt(low[1]), 4});
                    break;
                }
            }
        }
    }

    private static boolean[][] closed(boolean[][] direct) {
        int n = direct.length;
        boolean[][] all = new boolean[n][];
        for (int k = 0; k < n; k++) {
            all[k] = direct[k].clone();
        }
        for (int m = 0; m < n; m++) {
            for (int x = 0; x < n; x++) {
                for (int y = 0; y < n; y++) {
                    all[x][y] |= all[x][m] && all[m][y];
                }
            }
        }
        return all;
    }

    private void tellKinds(boolean[][] direct) {
        int n = sorts.size();
        boolean[][] closed = closed(direct);
        boolean[][] both = new boolean[n][n];
        for (int x = 0; x < n; x++) {
            for (int y = 0; y < n; y++) {
                under[x][y] = x == y || closed[x][y];
                both[x][y] = direct[x][y] || direct[y][x];
            }
        }
        boolean[][] joined = closed(both);
        kindOf = new int[n];
        kinds = 0;
        for (int x = 0; x < n; x++) {
            kindOf[x] = -1;
            for (int y = 0; y < x; y++) {
                if (joined[x][y]) {
                    kindOf[x] = kindOf[y];
                }
            }
            if (kindOf[x] < 0) {
                kindOf[x] = kinds++;
            }
        }
    }

    private List<String> formOf(Statement s) {
        List<String> form = new ArrayList<>();
        for (int w = s.formFrom; w < s.formTo; w++) {
            StringBuilder part = new StringBuilder();
            for (char c : (textAt(w) + " ").toCharArray()) {
                if (c == '_' || c == ' ') {
                    if (part.length() > 0) {
                        form.add(part.toString());
                    }
                    part.setLength(0);
                    if (c == '_') {
                        form.add(HOLE);
                    }
                } else {
                    part.append(c);
                }
            }
        }
        int many = s.sortsTo - s.sortsFrom;
        if (!form.contains(HOLE) && many > 0) {
            if (form.size() != 1 || SIGNS.contains(form.get(0))) {
                return null;
            }
            form.add("(");
            for (int k = 0; k < many; k++) {
                if (k > 0) {
                    form.add(",");
                }
                form.add(HOLE);
            }
            form.add(")");
        }
        int holes = Collections.frequency(form, HOLE);
        boolean good = holes == many && form.size() >= 1 && form.size() <= 12 && holes <= 3 && !(form.size() == 1 && holes == 1);
        return good ? form : null;
    }

    private void loadOps(List<Statement> all) {
        List<Statement> told = new ArrayList<>();
        List<Op> owners = new ArrayList<>();
        for (Statement s : all) {
            if (!s.what.equals("op")) {
                continue;
            }
            int many = s.sortsTo - s.sortsFrom;
            int[] row = new int[many + 1];
            int[] rowKinds = new int[many];
            for (int k = 0; k < many; k++) {
                row[k] = sorts.indexOf(textAt(s.sortsFrom + k));
                rowKinds[k] = kindOf[row[k]];
            }
            row[many] = sorts.indexOf(textAt(s.sort));
            Op owner = null;
            for (Op op : ops) {
                if (op.form.equals(s.form) && Arrays.equals(op.kinds, rowKinds)) {
                    owner = op;
                }
            }
            if (owner == null) {
                owner = new Op();
                owner.number = ops.size();
                owner.form = s.form;
                owner.holes = many;
                owner.kinds = rowKinds;
                owner.kind = kindOf[row[many]];
                owner.attributes = s.attributes;
                ops.add(owner);
            }
            owner.rows.add(row);
            rowCount++;
            told.add(s);
            owners.add(owner);
        }
        Map<Op, Integer> seen = new HashMap<>();
        for (int r = 0; r < told.size(); r++) {
            Statement s = told.get(r);
            Op op = owners.get(r);
            int index = seen.merge(op, 1, Integer::sum) - 1;
            int[] row = op.rows.get(index);
            int kind = kindOf[row[op.holes]];
            boolean two = op.holes == 2 && op.kinds[0] == op.kinds[1];
            boolean closed = two && kind == op.kinds[0];
            Map<String, Object> a = s.attributes;
            boolean bad = s.twice || (a.containsKey("assoc") && !closed) || (a.containsKey("comm") && !two);
            bad |= a.containsKey("id") && (!closed || constant((String) a.get("id"), kind) == null);
            bad |= a.containsKey("gather") && ((String) a.get("gather")).length() != op.holes;
            bad |= kind != op.kind || !a.equals(op.attributes);
            for (int k = 0; k < index; k++) {
                bad |= Arrays.equals(Arrays.copyOf(op.rows.get(k), op.holes), Arrays.copyOf(row, op.holes));
            }
            if (bad) {
                throw new Fault(5, s.place);
            }
        }
        for (Op op : ops) {
            boolean first = op.form.get(0).equals(HOLE);
            boolean last = op.form.get(op.form.size() - 1).equals(HOLE);
            op.assoc = op.attributes.containsKey("assoc");
            op.comm = op.attributes.containsKey("comm");
            op.id = op.attributes.containsKey("id") ? constant((String) op.attributes.get("id"), op.kind) : null;
            op.strength = op.attributes.containsKey("prec") ? (Integer) op.attributes.get("prec") : first || last ? 41 : 0;
            op.takes = new int[op.holes];
            String gather = (String) op.attributes.get("gather");
            for (int k = 0; k < op.holes; k++) {
                char letter = '&';
                if (gather != null) {
                    letter = gather.charAt(k);
                } else if (k == 0 && first) {
                    letter = 'e';
                } else if (k == op.holes - 1 && last) {
                    letter = first ? 'E' : 'e';
                }
                op.takes[k] = letter == '&' ? 1000 : letter == 'e' ? op.strength : op.strength - 1;
            }
        }
    }

    private Op constant(String form, int kind) {
        for (Op op : ops) {
            if (op.holes == 0 && op.form.equals(List.of(form)) && op.kind == kind) {
                return op;
            }
        }
        return null;
    }

    private void loadLaw(Statement s) {
        Law law = new Law();
        law.label = s.label;
        law.ordinary = s.what.equals("eq");
        law.left = read(s.left[0], s.left[1], -1);
        if (law.left.isVariable()) {
            throw new Fault(8, placeAt(s.left[0]));
        }
        Set<Integer> known = new HashSet<>(law.left.vars);
        for (Object[] told : s.parts) {
            Part part = new Part();
            part.sign = (String) told[0];
            int[] t = (int[]) told[1];
            int[] u = (int[]) told[2];
            part.sort = part.sign.equals(":") ? sorts.indexOf(textAt(u[0])) : -1;
            part.t = read(t[0], t[1], part.sort < 0 ? -1 : kindOf[part.sort]);
            if (!part.sign.equals(":=") && !known.containsAll(part.t.vars)) {
                throw new Fault(8, placeAt(t[0]));
            }
            if (part.sort < 0) {
                part.u = read(u[0], u[1], kind(part.t));
                if (!known.containsAll(part.u.vars)) {
                    throw new Fault(8, placeAt(u[0]));
                }
            }
            if (part.sign.equals(":=")) {
                known.addAll(part.t.vars);
            }
            law.parts.add(part);
        }
        law.right = read(s.right[0], s.right[1], kind(law.left));
        if (!known.containsAll(law.right.vars)) {
            throw new Fault(8, placeAt(s.right[0]));
        }
        List<Law> list = s.what.equals("rl") ? rules : equations;
        law.number = list.size();
        list.add(law);
    }

    // ---- READINGS

    private static final class Reading {
        int kind;
        int strength;
        /** null: it is too big. */
        Term term;
    }

    private Map<Integer, List<Reading>> readings;

    private Term read(int from, int to, int kind) {
        readings = new HashMap<>();
        List<Reading> found = new ArrayList<>();
        for (Reading r : readings(from, to)) {
            if (kind < 0 || r.kind == kind) {
                found.add(r);
            }
        }
        if (found.size() > 1) {
            throw new Fault(7, placeAt(from));
        }
        if (found.isEmpty() || found.get(0).term == null) {
            throw new Fault(6, placeAt(from));
        }
        return found.get(0).term;
    }

    private void addReading(List<Reading> list, int kind, int strength, Term term) {
        int same = 0;
        for (Reading r : list) {
            same += r.kind == kind && r.strength == strength ? 1 : 0;
        }
        if (same < 2) {
            Reading r = new Reading();
            r.kind = kind;
            r.strength = strength;
            r.term = term;
            list.add(r);
        }
    }

    private List<Reading> readings(int from, int to) {
        int key = from * 1000 + to;
        if (readings.containsKey(key)) {
            return readings.get(key);
        }
        List<Reading> list = new ArrayList<>();
        if (to - from == 1 && variables.contains(textAt(from))) {
            Term v = variable(variables.indexOf(textAt(from)));
            addReading(list, kind(v), 0, v);
        }
        if (to - from > 2 && textAt(from).equals("(") && textAt(to - 1).equals(")")) {
            for (Reading r : readings(from + 1, to - 1)) {
                addReading(list, r.kind, 0, r.term);
            }
        }
        for (Op op : ops) {
            fit(op, 0, 0, from, to, new ArrayList<>(), list);
        }
        readings.put(key, list);
        return list;
    }

    private void fit(Op op, int element, int hole, int from, int to, List<Term> row, List<Reading> out) {
        if (element == op.form.size()) {
            if (from == to) {
                Term made = null;
                if (!row.contains(null)) {
                    made = makeOrNull(op, row);
                }
                addReading(out, op.kind, op.strength, made);
            }
            return;
        }
        if (from >= to) {
            return;
        }
        if (!op.form.get(element).equals(HOLE)) {
            if (textAt(from).equals(op.form.get(element))) {
                fit(op, element + 1, hole, from + 1, to, row, out);
            }
            return;
        }
        int behind = op.form.size() - element - 1;
        for (int end = from + 1; end <= to - behind; end++) {
            if (behind == 0 && end < to) {
                continue;
            }
            for (Reading r : readings(from, end)) {
                if (r.kind == op.kinds[hole] && r.strength <= op.takes[hole]) {
                    List<Term> longer = new ArrayList<>(row);
                    longer.add(r.term);
                    fit(op, element + 1, hole + 1, end, to, longer, out);
                }
            }
        }
    }

    int fault(int what) {
        return what == 0 ? faultPlace : what == 1 ? faultLine : BAD;
    }

    int count(int what) {
        int[] all = {sorts.size(), kinds, ops.size(), rowCount, variables.size(), equations.size(), rules.size(), handles.size(),
            resultKind.equals("match") ? matchersKept.size() : results.size(), latestStop, latestSteps};
        return what >= 0 && what < all.length ? all[what] : BAD;
    }

    // ---- TERMS

    private int kind(Term t) {
        return t.isVariable() ? kindOf[variableSorts.get(t.variable % 30)] : t.op.kind;
    }

    private Term variable(int v) {
        Term t = new Term();
        t.variable = v;
        t.key = "v" + v;
        t.least = variableSorts.get(v % 30);
        t.vars = Set.of(v);
        return t;
    }

    private Term makeOrNull(Op op, List<Term> terms) {
        List<Term> row = new ArrayList<>();
        for (Term t : terms) {
            row.addAll(op.assoc ? asRow(op, t) : List.of(t));
        }
        if (op.id != null) {
            row.removeIf(t -> t.op == op.id);
            if (row.size() == 1) {
                return row.get(0);
            }
            if (row.isEmpty()) {
                return makeOrNull(op.id, List.of());
            }
        }
        if (op.comm) {
            row.sort(this::compare);
        }
        Term t = new Term();
        t.op = op;
        t.row = row;
        StringBuilder key = new StringBuilder("o").append(op.number).append('(');
        Set<Integer> vars = new HashSet<>();
        for (Term inner : row) {
            t.size += inner.size;
            key.append(inner.key).append(' ');
            vars.addAll(inner.vars);
        }
        if (t.size > 40) {
            return null;
        }
        t.key = key.append(')').toString();
        t.vars = vars;
        t.least = leastOf(t);
        return t;
    }

    private Term make(Op op, List<Term> terms) {
        Term made = makeOrNull(op, terms);
        if (made == null) {
            throw new Stop(6);
        }
        return made;
    }

    private List<Term> asRow(Op op, Term t) {
        return t.op == op ? t.row : List.of(t);
    }

    private int compare(Term a, Term b) {
        if (a.isVariable() || b.isVariable()) {
            return a.isVariable() && b.isVariable() ? Integer.compare(a.variable, b.variable) : a.isVariable() ? -1 : 1;
        }
        if (a.op != b.op) {
            return Integer.compare(a.op.number, b.op.number);
        }
        return compareRows(a.row, b.row);
    }

    private int compareRows(List<Term> a, List<Term> b) {
        if (a.size() != b.size()) {
            return Integer.compare(a.size(), b.size());
        }
        for (int k = 0; k < a.size(); k++) {
            int c = compare(a.get(k), b.get(k));
            if (c != 0) {
                return c;
            }
        }
        return 0;
    }

    private static boolean same(Term a, Term b) {
        return a.key.equals(b.key);
    }

    private int leastOf(Term t) {
        if (t.op.assoc) {
            int least = t.row.get(0).least;
            for (int k = 1; k < t.row.size(); k++) {
                least = leastOver(t.op, new int[] {least, t.row.get(k).least});
            }
            return least;
        }
        int[] of = new int[t.row.size()];
        for (int k = 0; k < of.length; k++) {
            of[k] = t.row.get(k).least;
        }
        return leastOver(t.op, of);
    }

    private List<Integer> resultsAbove(Op op, int[] of) {
        List<Integer> found = new ArrayList<>();
        for (int s : of) {
            if (s < 0) {
                return found;
            }
        }
        for (int[] row : op.rows) {
            boolean straight = true;
            boolean turned = op.comm;
            for (int k = 0; k < of.length; k++) {
                straight &= under[of[k]][row[k]];
                turned = turned && under[of[k]][row[of.length - 1 - k]];
            }
            if (straight || turned) {
                found.add(row[of.length]);
            }
        }
        return found;
    }

    private int lowest(List<Integer> found) {
        for (int s : found) {
            boolean all = true;
            for (int t : found) {
                all &= under[s][t];
            }
            if (all) {
                return s;
            }
        }
        return NONE;
    }

    private int leastOver(Op op, int[] of) {
        return lowest(resultsAbove(op, of));
    }

    private boolean isHandle(int h) {
        return h >= 0 && h < handles.size();
    }

    private int handle(Term t) {
        if (handles.size() >= 200) {
            return FULL;
        }
        handles.add(t);
        return handles.size() - 1;
    }

    int term() {
        int answer;
        try {
            split(900);
            int[] row = row();
            if (at < words.size()) {
                throw wrong();
            }
            Term t = read(row[0], row[1], -1);
            noFault();
            answer = handle(t);
        } catch (Fault f) {
            if (f.code == 7) {
                noFault();
            } else {
                tellFault(f);
            }
            answer = f.code == 7 ? DOUBT : -10 - f.code;
        }
        tape.clear();
        return answer;
    }

    int about(int h, int what) {
        if (!isHandle(h) || what < 0 || what > 5) {
            return BAD;
        }
        Term t = handles.get(h);
        return new int[] {t.size, t.least, t.isVariable() ? NONE : t.op.number, t.isVariable() ? t.variable : NONE, t.row.size(), kind(t)}[what];
    }

    int part(int h, int i) {
        return isHandle(h) && i >= 0 && i < handles.get(h).row.size() ? handle(handles.get(h).row.get(i)) : BAD;
    }

    int order(int h, int k) {
        return isHandle(h) && isHandle(k) ? compare(handles.get(h), handles.get(k)) : -9;
    }

    int print(int h, int i) {
        if (!isHandle(h) || i < -1) {
            return BAD;
        }
        String text = String.join(" ", printed(handles.get(h)));
        return i == -1 ? text.length() : i < text.length() ? text.charAt(i) : BAD;
    }

    private List<String> printed(Term t) {
        if (t.isVariable()) {
            return List.of(variables.get(t.variable % 30) + (t.variable >= 30 ? "'" : ""));
        }
        if (t.op.assoc) {
            List<String> text = inHole(t.op, 0, t.row.get(0), null);
            for (int k = 1; k < t.row.size(); k++) {
                text = joined(t.op, k == 1 ? text : inHole(t.op, 0, t, text), inHole(t.op, 1, t.row.get(k), null));
            }
            return text;
        }
        List<String> out = new ArrayList<>();
        int hole = 0;
        for (String part : t.op.form) {
            if (part.equals(HOLE)) {
                out.addAll(inHole(t.op, hole, t.row.get(hole), null));
                hole++;
            } else {
                out.add(part);
            }
        }
        return out;
    }

    private List<String> inHole(Op op, int hole, Term t, List<String> text) {
        List<String> inner = new ArrayList<>(text == null ? printed(t) : text);
        if (!t.isVariable() && t.op.strength > op.takes[hole] || t.isVariable() && 0 > op.takes[hole]) {
            inner.add(0, "(");
            inner.add(")");
        }
        return inner;
    }

    private static List<String> joined(Op op, List<String> first, List<String> second) {
        List<String> out = new ArrayList<>();
        int hole = 0;
        for (String part : op.form) {
            if (part.equals(HOLE)) {
                out.addAll(hole == 0 ? first : second);
                hole++;
            } else {
                out.add(part);
            }
        }
        return out;
    }

    int forget() {
        int had = handles.size();
        handles.clear();
        return had;
    }

    int below(int s, int t) {
        if (s < 0 || s >= sorts.size() || t < 0 || t >= sorts.size()) {
            return BAD;
        }
        return under[s][t] ? 1 : 0;
    }

    int kind(int s) {
        return s < 0 || s >= sorts.size() ? BAD : kindOf[s];
    }

    int operator(int o, int what) {
        if (o < 0 || o >= ops.size() || what < 0 || what > 6) {
            return BAD;
        }
        Op op = ops.get(o);
        return new int[] {op.holes, op.strength, op.assoc ? 1 : 0, op.comm ? 1 : 0, op.id == null ? NONE : op.id.number, op.rows.size(), op.kind}[what];
    }

    // ---- MATCHERS

    private static final class Matcher {
        Map<Integer, Term> bound;
        List<Term> ahead;
        List<Term> behind;
        Op op;
    }

    private int steps;
    private int matchers;
    private int filled;
    private long deals;
    private long mostDeals;
    private Map<String, Term> rest = new HashMap<>();

    private void begin(long most) {
        deals = 0;
        mostDeals = most;
        beginAnew();
    }

    private void beginAnew() {
        steps = 0;
        matchers = 0;
        filled = 0;
        rest = new HashMap<>();
    }

    private void subterms(Term t, List<Term> out) {
        out.add(t);
        for (Term inner : t.row) {
            subterms(inner, out);
        }
    }

    private int longest(Term t, Op op) {
        List<Term> all = new ArrayList<>();
        subterms(t, all);
        int most = 1;
        for (Term inner : all) {
            most = inner.op == op ? Math.max(most, inner.row.size()) : most;
        }
        return most;
    }

    private void countList(Term p, Term t) {
        List<Term> all = new ArrayList<>();
        subterms(p, all);
        double cost = 1;
        boolean wide = false;
        for (Term inner : all) {
            if (inner.isVariable()) {
                continue;
            }
            int r = inner.row.size();
            if (inner.op.assoc) {
                int w = longest(t, inner.op);
                wide |= w > 6;
                if (inner.op.comm) {
                    cost *= Math.pow(r + 1, w);
                } else {
                    double ways = 1;
                    for (int k = 1; k <= w; k++) {
                        ways = ways * (r + 1 + k) / k;
                    }
                    cost *= Math.round(ways);
                }
            } else if (inner.op.comm) {
                cost *= 2;
            }
        }
        if (wide) {
            throw new Stop(3);
        }
        deals += (long) Math.min(cost, 1e12);
        if (deals > mostDeals) {
            throw new Stop(4);
        }
    }

    private List<Matcher> list(Term p, Term t, boolean within, Map<Integer, Term> known) {
        countList(p, t);
        Map<String, Matcher> found = new LinkedHashMap<>();
        if (within && !p.isVariable() && p.op.assoc && t.op == p.op) {
            int n = t.row.size();
            for (int bits = 1; bits < 1 << n; bits++) {
                if (!p.op.comm && !isSideBySide(bits)) {
                    continue;
                }
                List<Term> ahead = new ArrayList<>();
                List<Term> inside = new ArrayList<>();
                List<Term> behind = new ArrayList<>();
                for (int k = 0; k < n; k++) {
                    boolean in = (bits >> k & 1) != 0;
                    (in ? inside : p.op.comm || !inside.isEmpty() ? behind : ahead).add(t.row.get(k));
                }
                Term part = make(p.op, inside, inside.size());
                match(List.of(p), List.of(part), new TreeMap<>(known), m -> add(found, p, m, ahead, behind));
            }
        } else {
            match(List.of(p), List.of(t), new TreeMap<>(known), m -> add(found, p, m, List.of(), List.of()));
        }
        List<Matcher> all = new ArrayList<>(found.values());
        if (all.size() > 200) {
            throw new Stop(2);
        }
        all.sort(matcherOrder(p));
        matchers += all.size();
        if (matchers > 6000) {
            throw new Stop(4);
        }
        return all;
    }

    /** A part of a row: one alone is that TERM. */
    private Term make(Op op, List<Term> row, int many) {
        return many == 1 ? row.get(0) : make(op, row);
    }

    private static boolean isSideBySide(int bits) {
        int low = Integer.numberOfTrailingZeros(bits);
        int shifted = bits >> low;
        return (shifted & shifted + 1) == 0;
    }

    private Comparator<Matcher> matcherOrder(Term p) {
        List<Integer> vars = new ArrayList<>(p.vars);
        Collections.sort(vars);
        return (a, b) -> {
            for (int v : vars) {
                int c = compare(a.bound.get(v), b.bound.get(v));
                if (c != 0) {
                    return c;
                }
            }
            int c = compareRows(a.ahead, b.ahead);
            return c != 0 ? c : compareRows(a.behind, b.behind);
        };
    }

    private boolean add(Map<String, Matcher> found, Term p, Map<Integer, Term> bound, List<Term> ahead, List<Term> behind) {
        Matcher m = new Matcher();
        m.bound = new TreeMap<>();
        StringBuilder key = new StringBuilder();
        for (int v : p.vars) {
            m.bound.put(v, bound.get(v));
            key.append(v).append('=').append(bound.get(v).key).append(';');
        }
        m.ahead = ahead;
        m.behind = behind;
        m.op = p.op;
        for (Term t : ahead) {
            key.append(t.key).append(',');
        }
        key.append('|');
        for (Term t : behind) {
            key.append(t.key).append(',');
        }
        found.putIfAbsent(key.toString(), m);
        return false;
    }

    /** All patterns become their terms; the predicate says whether that is enough. */
    private boolean match(List<Term> patterns, List<Term> terms, Map<Integer, Term> bound, Predicate<Map<Integer, Term>> then) {
        if (patterns.isEmpty()) {
            return then.test(bound);
        }
        Term p = patterns.get(0);
        Term t = terms.get(0);
        List<Term> otherPatterns = patterns.subList(1, patterns.size());
        List<Term> otherTerms = terms.subList(1, terms.size());
        if (p.isVariable()) {
            Term b = bound.get(p.variable);
            if (b != null) {
                return same(b, t) && match(otherPatterns, otherTerms, bound, then);
            }
            if (t.least < 0 || !under[t.least][p.least]) {
                return false;
            }
            bound.put(p.variable, t);
            boolean enough = match(otherPatterns, otherTerms, bound, then);
            bound.remove(p.variable);
            return enough;
        }
        if (p.op.assoc) {
            List<Term> row = p.op.id != null && t.op == p.op.id ? List.of() : asRow(p.op, t);
            return p.op.comm ? deal(p, row, 0, new int[row.size()], otherPatterns, otherTerms, bound, then)
                    : cut(p, row, 0, new ArrayList<>(), otherPatterns, otherTerms, bound, then);
        }
        List<List<Term>> splits = new ArrayList<>();
        if (t.op == p.op) {
            splits.add(t.row);
            if (p.op.comm) {
                splits.add(List.of(t.row.get(1), t.row.get(0)));
            }
        }
        if (p.op.id != null) {
            Term id = make(p.op.id, List.of());
            splits.add(List.of(id, t));
            splits.add(List.of(t, id));
        }
        for (List<Term> split : splits) {
            if (goOn(p.row, split, otherPatterns, otherTerms, bound, then)) {
                return true;
            }
        }
        return false;
    }

    private boolean goOn(List<Term> ps, List<Term> ts, List<Term> otherPatterns, List<Term> otherTerms, Map<Integer, Term> bound, Predicate<Map<Integer, Term>> then) {
        List<Term> allPatterns = new ArrayList<>(ps);
        allPatterns.addAll(otherPatterns);
        List<Term> allTerms = new ArrayList<>(ts);
        allTerms.addAll(otherTerms);
        return match(allPatterns, allTerms, bound, then);
    }

    /** Each of the row goes to one of the pattern's. */
    private boolean deal(Term p, List<Term> row, int k, int[] to, List<Term> otherPatterns, List<Term> otherTerms, Map<Integer, Term> bound, Predicate<Map<Integer, Term>> then) {
        if (k < row.size()) {
            for (int i = 0; i < p.row.size(); i++) {
                to[k] = i;
                if (deal(p, row, k + 1, to, otherPatterns, otherTerms, bound, then)) {
                    return true;
                }
            }
            return false;
        }
        List<Term> groups = new ArrayList<>();
        for (int i = 0; i < p.row.size(); i++) {
            List<Term> group = new ArrayList<>();
            for (int j = 0; j < row.size(); j++) {
                if (to[j] == i) {
                    group.add(row.get(j));
                }
            }
            if (group.isEmpty() && p.op.id == null) {
                return false;
            }
            groups.add(make(p.op, group, group.size()));
        }
        return goOn(p.row, groups, otherPatterns, otherTerms, bound, then);
    }

    private boolean cut(Term p, List<Term> row, int from, List<Term> groups, List<Term> otherPatterns, List<Term> otherTerms, Map<Integer, Term> bound, Predicate<Map<Integer, Term>> then) {
        if (groups.size() == p.row.size()) {
            return from == row.size() && goOn(p.row, groups, otherPatterns, otherTerms, bound, then);
        }
        for (int end = p.op.id == null ? from + 1 : from; end <= row.size(); end++) {
            List<Term> longer = new ArrayList<>(groups);
            longer.add(make(p.op, row.subList(from, end), end - from));
            if (cut(p, row, end, longer, otherPatterns, otherTerms, bound, then)) {
                return true;
            }
        }
        return false;
    }

    private int stopped(Stop s) {
        latestStop = s.code;
        return -20 - s.code;
    }

    int match(int p, int t, boolean within) {
        if (!isHandle(p) || !isHandle(t) || kind(handles.get(p)) != kind(handles.get(t))) {
            return BAD;
        }
        begin(300000);
        try {
            matchersKept = list(handles.get(p), handles.get(t), within, Map.of());
        } catch (Stop s) {
            return stopped(s);
        }
        resultKind = "match";
        return matchersKept.size();
    }

    int bound(int i, int v) {
        if (!resultKind.equals("match") || i < 0 || i >= matchersKept.size() || v < -2 || v > 59) {
            return BAD;
        }
        Matcher m = matchersKept.get(i);
        if (v >= 0) {
            return m.bound.containsKey(v) ? handle(m.bound.get(v)) : NONE;
        }
        List<Term> row = v == -1 ? m.ahead : m.behind;
        return row.isEmpty() ? NONE : handle(make(m.op, row, row.size()));
    }

    // ---- REDUCING

    private void fill(int size) {
        filled += size;
        if (filled > 4000) {
            throw new Stop(7);
        }
    }

    private Term put(Term t, Map<Integer, Term> bound) {
        if (t.isVariable()) {
            return bound.getOrDefault(t.variable, t);
        }
        List<Term> row = new ArrayList<>();
        for (Term inner : t.row) {
            row.add(put(inner, bound));
        }
        return make(t.op, row);
    }

    private Term filledWith(Term t, Map<Integer, Term> bound) {
        fill(t.size);
        return put(t, bound);
    }

    private void step() {
        steps++;
        if (steps > 600) {
            throw new Stop(1);
        }
    }

    private Term reduced(Term t, int depth) {
        if (t.isVariable()) {
            return t;
        }
        if (rest.containsKey(t.key)) {
            return rest.get(t.key);
        }
        if (depth > 60) {
            throw new Stop(5);
        }
        List<Term> row = new ArrayList<>();
        for (Term inner : t.row) {
            row.add(reduced(inner, depth + 1));
        }
        Term u = make(t.op, row);
        Term end = rest.get(u.key);
        if (end == null) {
            Term made = changedByEquation(u, depth);
            end = made == null ? u : reduced(made, depth);
            rest.put(u.key, end);
        }
        rest.put(t.key, end);
        return end;
    }

    private Term changedByEquation(Term u, int depth) {
        List<Law> tried = new ArrayList<>();
        for (int round = 0; round < 2; round++) {
            for (Law e : equations) {
                if (e.ordinary == (round == 0)) {
                    tried.add(e);
                }
            }
        }
        Term[] made = new Term[1];
        for (Law e : tried) {
            for (Matcher m : list(e.left, u, true, Map.of())) {
                boolean holds = holds(e, 0, m.bound, depth + 1, bound -> {
                    made[0] = rightSide(e, m, bound);
                    return true;
                });
                if (holds) {
                    step();
                    return made[0];
                }
            }
        }
        return null;
    }

    private Term rightSide(Law law, Matcher m, Map<Integer, Term> bound) {
        Term right = filledWith(law.right, bound);
        if (m.ahead.isEmpty() && m.behind.isEmpty()) {
            return right;
        }
        List<Term> row = new ArrayList<>(m.ahead);
        row.add(right);
        row.addAll(m.behind);
        return make(law.left.op, row);
    }

    private boolean holds(Law law, int k, Map<Integer, Term> bound, int depth, Predicate<Map<Integer, Term>> then) {
        if (k == law.parts.size()) {
            return then.test(bound);
        }
        Part part = law.parts.get(k);
        switch (part.sign) {
            case "=":
                Term a = reduced(filledWith(part.t, bound), depth);
                Term b = reduced(filledWith(part.u, bound), depth);
                return same(a, b) && holds(law, k + 1, bound, depth, then);
            case ":":
                Term t = reduced(filledWith(part.t, bound), depth);
                return t.least >= 0 && under[t.least][part.sort] && holds(law, k + 1, bound, depth, then);
            default:
                fill(part.t.size + part.u.size);
                Term u = reduced(put(part.u, bound), depth);
                Map<Integer, Term> known = new TreeMap<>(bound);
                known.keySet().retainAll(part.t.vars);
                for (Matcher m : list(part.t, u, false, known)) {
                    Map<Integer, Term> more = new TreeMap<>(bound);
                    more.putAll(m.bound);
                    if (holds(law, k + 1, more, depth, then)) {
                        return true;
                    }
                }
                return false;
        }
    }

    int reduce(int h) {
        if (handles.size() >= 200) {
            return FULL;
        }
        if (!isHandle(h)) {
            return BAD;
        }
        begin(300000);
        try {
            return handle(reduced(handles.get(h), 0));
        } catch (Stop s) {
            return stopped(s);
        } finally {
            latestSteps = steps;
        }
    }

    // ---- WAYS

    private static final class Step {
        Term term;
        int rule;
    }

    private List<Step> stepsOf(Term t, String label) {
        List<Step> out = new ArrayList<>();
        stepsAt(t, new ArrayList<>(), t, label, out);
        return out;
    }

    private void stepsAt(Term whole, List<Integer> path, Term here, String label, List<Step> out) {
        for (Law rule : rules) {
            if (label != null && !rule.label.equals(label)) {
                continue;
            }
            for (Matcher m : list(rule.left, here, true, Map.of())) {
                holds(rule, 0, m.bound, 1, bound -> {
                    Term made = replaced(whole, path, 0, rightSide(rule, m, bound));
                    fill(made.size);
                    Term end = reduced(made, 0);
                    step();
                    addStep(out, end, rule.number);
                    return false;
                });
            }
        }
        for (int k = 0; k < here.row.size(); k++) {
            List<Integer> longer = new ArrayList<>(path);
            longer.add(k);
            stepsAt(whole, longer, here.row.get(k), label, out);
        }
    }

    private static void addStep(List<Step> out, Term end, int rule) {
        for (Step s : out) {
            if (same(s.term, end)) {
                return;
            }
        }
        if (out.size() == 60) {
            throw new Stop(2);
        }
        Step s = new Step();
        s.term = end;
        s.rule = rule;
        out.add(s);
    }

    private Term replaced(Term t, List<Integer> path, int k, Term by) {
        if (k == path.size()) {
            return by;
        }
        List<Term> row = new ArrayList<>(t.row);
        row.set(path.get(k), replaced(t.row.get(path.get(k)), path, k + 1, by));
        return make(t.op, row);
    }

    int steps(int h) {
        if (!isHandle(h)) {
            return BAD;
        }
        begin(300000);
        try {
            List<Step> found = stepsOf(reduced(handles.get(h), 0), null);
            results = new ArrayList<>();
            ways = new ArrayList<>();
            for (Step s : found) {
                results.add(s.term);
                ways.add(new int[] {s.rule});
            }
            resultKind = "steps";
            return results.size();
        } catch (Stop s) {
            return stopped(s);
        } finally {
            latestSteps = steps;
        }
    }

    int result(int i) {
        return resultKind.equals("match") || i < 0 || i >= results.size() || resultKind.isEmpty() ? BAD : handle(results.get(i));
    }

    int way(int i, int what) {
        boolean has = resultKind.equals("steps") || resultKind.equals("states");
        return has && i >= 0 && i < results.size() && what >= 0 && what < ways.get(i).length ? ways.get(i)[what] : BAD;
    }

    int states(int h) {
        if (!isHandle(h)) {
            return BAD;
        }
        begin(300000);
        try {
            List<Term> found = new ArrayList<>();
            List<int[]> foundWays = new ArrayList<>();
            List<List<Integer>> foundEdges = new ArrayList<>();
            found.add(reduced(handles.get(h), 0));
            foundWays.add(new int[] {NONE, NONE, 0, 0});
            for (int k = 0; k < found.size(); k++) {
                List<Integer> to = new ArrayList<>();
                List<Step> list = stepsOf(found.get(k), null);
                for (Step s : list) {
                    int index = -1;
                    for (int j = 0; j < found.size(); j++) {
                        index = same(found.get(j), s.term) ? j : index;
                    }
                    if (index < 0) {
                        if (found.size() == 120) {
                            throw new Stop(2);
                        }
                        index = found.size();
                        found.add(s.term);
                        foundWays.add(new int[] {k, s.rule, foundWays.get(k)[2] + 1, 0});
                    }
                    to.add(index);
                }
                foundWays.get(k)[3] = list.size();
                foundEdges.add(to);
            }
            results = found;
            ways = foundWays;
            edges = foundEdges;
            resultKind = "states";
            return results.size();
        } catch (Stop s) {
            return stopped(s);
        } finally {
            latestSteps = steps;
        }
    }

    private boolean is(Term state, Term pattern) {
        return kind(state) == kind(pattern) && !list(pattern, state, false, Map.of()).isEmpty();
    }

    int search(int p, int i) {
        if (!isHandle(p) || !resultKind.equals("states") || i < 0 || i >= results.size()) {
            return BAD;
        }
        begin(300000);
        try {
            for (int k = i; k < results.size(); k++) {
                if (is(results.get(k), handles.get(p))) {
                    return k;
                }
            }
            return NONE;
        } catch (Stop s) {
            return stopped(s);
        }
    }

    int law(int kind, int p, int q) {
        if (kind < 0 || kind > 3 || !isHandle(p) || (kind == 3 && !isHandle(q)) || !resultKind.equals("states")) {
            return BAD;
        }
        begin(300000);
        int n = results.size();
        boolean[] first = new boolean[n];
        boolean[] second = new boolean[n];
        try {
            for (int k = 0; k < n; k++) {
                first[k] = is(results.get(k), handles.get(p));
            }
            for (int k = 0; k < n && kind == 3; k++) {
                second[k] = is(results.get(k), handles.get(q));
            }
        } catch (Stop s) {
            latestStop = s.code;
            return -1000 - s.code;
        }
        for (int k = 0; k < n; k++) {
            boolean broken = kind == 0 ? !first[k] : kind == 1 ? first[k] : kind == 2 ? k == 0 && escapes(0, first)
                    : first[k] && !second[k] && escapes(k, second);
            if (broken) {
                return -10 - k;
            }
        }
        return 1;
    }

    /** Whether a row of steps from there, through STATES that are none of these, ends, or goes on without end. */
    private boolean escapes(int from, boolean[] goal) {
        if (goal[from]) {
            return false;
        }
        // all that can be come to from there without a goal: one that ends, or a ring
        Set<Integer> seen = new HashSet<>();
        List<Integer> open = new ArrayList<>(List.of(from));
        while (!open.isEmpty()) {
            int k = open.remove(open.size() - 1);
            if (goal[k] || !seen.add(k)) {
                continue;
            }
            if (edges.get(k).isEmpty()) {
                return true;
            }
            open.addAll(edges.get(k));
        }
        for (int k : seen) {
            Set<Integer> behind = new HashSet<>();
            open.addAll(edges.get(k));
            while (!open.isEmpty()) {
                int j = open.remove(open.size() - 1);
                if (!goal[j] && behind.add(j)) {
                    open.addAll(edges.get(j));
                }
            }
            if (behind.contains(k)) {
                return true;
            }
        }
        return false;
    }

    private static final class Plan {
        String what;
        String label;
        Plan a;
        Plan b;

        Plan(String what, Plan a, Plan b) {
            this.what = what;
            this.a = a;
            this.b = b;
        }
    }

    private Plan planOr() {
        Plan plan = planThen();
        while ("|".equals(word())) {
            take();
            plan = new Plan("|", plan, planThen());
        }
        return plan;
    }

    private Plan planThen() {
        Plan plan = planBehind();
        while (";".equals(word())) {
            take();
            plan = new Plan(";", plan, planBehind());
        }
        return plan;
    }

    private Plan planBehind() {
        Plan plan = planSingle();
        while ("*".equals(word()) || "!".equals(word())) {
            plan = new Plan(word(), plan, null);
            take();
        }
        return plan;
    }

    private Plan planSingle() {
        String w = word();
        if (w == null) {
            throw wrong();
        }
        if (Set.of("idle", "fail", "all").contains(w)) {
            take();
            return new Plan(w, null, null);
        }
        if (w.equals("(")) {
            take();
            return planInside();
        }
        if (!isLabel(w) && !Set.of("not", "one").contains(w)) {
            throw wrong();
        }
        take();
        boolean bracket = Set.of("not", "one").contains(w) && "(".equals(word());
        if (bracket || !isLabel(w)) {
            need("(");
            return new Plan(w, planInside(), null);
        }
        Plan plan = new Plan("label", null, null);
        plan.label = w;
        return plan;
    }

    private Plan planInside() {
        Plan inside = planOr();
        need(")");
        return inside;
    }

    private boolean isLabel(String w) {
        boolean known = false;
        for (Law rule : rules) {
            known |= rule.label.equals(w);
        }
        return known;
    }

    private static void join(List<Term> list, Term t) {
        for (Term there : list) {
            if (same(there, t)) {
                return;
            }
        }
        if (list.size() == 60) {
            throw new Stop(2);
        }
        list.add(t);
    }

    private List<Term> answers(Plan plan, Term t) {
        List<Term> list = new ArrayList<>();
        switch (plan.what) {
            case "idle":
                list.add(t);
                return list;
            case "fail":
                return list;
            case "all":
            case "label":
                for (Step s : stepsOf(t, plan.label)) {
                    list.add(s.term);
                }
                return list;
            case "|":
                list = answers(plan.a, t);
                for (Term other : answers(plan.b, t)) {
                    join(list, other);
                }
                return list;
            case ";":
                for (Term middle : answers(plan.a, t)) {
                    for (Term other : answers(plan.b, middle)) {
                        join(list, other);
                    }
                }
                return list;
            case "*":
            case "!":
                list.add(t);
                List<Term> ends = new ArrayList<>();
                for (int k = 0; k < list.size(); k++) {
                    List<Term> others = answers(plan.a, list.get(k));
                    if (others.isEmpty()) {
                        ends.add(list.get(k));
                    }
                    for (Term other : others) {
                        join(list, other);
                    }
                }
                return plan.what.equals("*") ? list : ends;
            case "not":
                if (answers(plan.a, t).isEmpty()) {
                    list.add(t);
                }
                return list;
            default:
                List<Term> all = answers(plan.a, t);
                return all.isEmpty() ? all : new ArrayList<>(all.subList(0, 1));
        }
    }

    int strategy(int h) {
        if (!isHandle(h)) {
            noFault();
            return BAD;
        }
        Plan plan;
        try {
            split(60);
            plan = planOr();
            if (at < words.size()) {
                throw wrong();
            }
            noFault();
        } catch (Fault f) {
            tellFault(f);
            tape.clear();
            return -10 - f.code;
        }
        tape.clear();
        begin(300000);
        try {
            List<Term> found = answers(plan, reduced(handles.get(h), 0));
            results = found;
            resultKind = "strategy";
            return results.size();
        } catch (Stop s) {
            return stopped(s);
        } finally {
            latestSteps = steps;
        }
    }

    // ---- JUDGED AHEAD

    /** Where ONE LEAST fails first: the OPERATOR, its sorts; or null. */
    private List<Integer> leastFails() {
        for (Op op : ops) {
            List<Integer> found = leastFails(op, new ArrayList<>());
            if (found != null) {
                return found;
            }
            if (!op.assoc) {
                continue;
            }
            for (int a = 0; a < sorts.size(); a++) {
                for (int b = 0; b < sorts.size(); b++) {
                    for (int c = 0; c < sorts.size(); c++) {
                        if (kindOf[a] != op.kind || kindOf[b] != op.kind || kindOf[c] != op.kind) {
                            continue;
                        }
                        int left = leastOver(op, new int[] {leastOver(op, new int[] {a, b}), c});
                        int right = leastOver(op, new int[] {a, leastOver(op, new int[] {b, c})});
                        if (left != right) {
                            return List.of(op.number, a, b, c);
                        }
                    }
                }
            }
        }
        return null;
    }

    private List<Integer> leastFails(Op op, List<Integer> of) {
        if (of.size() == op.holes) {
            int[] row = of.stream().mapToInt(Integer::intValue).toArray();
            List<Integer> found = resultsAbove(op, row);
            if (found.isEmpty() || lowest(found) >= 0) {
                return null;
            }
            List<Integer> witness = new ArrayList<>(of);
            witness.add(0, op.number);
            return witness;
        }
        for (int s = 0; s < sorts.size(); s++) {
            if (kindOf[s] == op.kinds[of.size()]) {
                List<Integer> longer = new ArrayList<>(of);
                longer.add(s);
                List<Integer> found = leastFails(op, longer);
                if (found != null) {
                    return found;
                }
            }
        }
        return null;
    }

    private Map<String, Boolean> aboveKnown = new HashMap<>();

    private boolean above(Term s, Term t) {
        String key = s.key + ">" + t.key;
        Boolean known = aboveKnown.get(key);
        if (known == null) {
            known = aboveAnew(s, t);
            aboveKnown.put(key, known);
        }
        return known;
    }

    private boolean aboveAnew(Term s, Term t) {
        for (Term inner : s.row) {
            if (same(inner, t) || above(inner, t)) {
                return true;
            }
        }
        if (s.isVariable() || t.isVariable()) {
            return false;
        }
        for (Term inner : t.row) {
            if (!above(s, inner)) {
                return false;
            }
        }
        if (s.op != t.op) {
            return s.op.number > t.op.number;
        }
        if (s.op.comm || s.op.assoc) {
            List<Term> left = new ArrayList<>(s.row);
            List<Term> others = new ArrayList<>();
            for (Term inner : t.row) {
                boolean removed = false;
                for (int k = 0; k < left.size() && !removed; k++) {
                    if (same(left.get(k), inner)) {
                        left.remove(k);
                        removed = true;
                    }
                }
                if (!removed) {
                    others.add(inner);
                }
            }
            for (Term other : others) {
                if (left.stream().noneMatch(x -> above(x, other))) {
                    return false;
                }
            }
            return !left.isEmpty();
        }
        for (int k = 0; k < s.row.size(); k++) {
            if (!same(s.row.get(k), t.row.get(k))) {
                return above(s.row.get(k), t.row.get(k));
            }
        }
        return false;
    }

    private int notFalling() {
        aboveKnown = new HashMap<>();
        for (Law e : equations) {
            boolean falls = above(e.left, e.right);
            for (Part part : e.parts) {
                falls &= above(e.left, part.t) && (part.u == null || above(e.left, part.u));
            }
            if (!falls) {
                return e.number;
            }
        }
        return -1;
    }

    int check(int what) {
        return what == 0 ? leastFails() == null ? 1 : 0 : what == 1 ? notFalling() < 0 ? 1 : 0 : BAD;
    }

    int witness(int what, int i) {
        if (what < 0 || what > 1 || i < 0 || (what == 1 && i != 0)) {
            return BAD;
        }
        if (what == 1) {
            return notFalling() < 0 ? NONE : notFalling();
        }
        List<Integer> found = leastFails();
        return found == null ? NONE : i < found.size() ? found.get(i) : BAD;
    }

    private boolean pairsJudged;
    private int pairCount;
    private int openCount;
    private int pairStop;
    private List<Object[]> apart;

    private boolean arePairsLookedAt() {
        for (Law e : equations) {
            List<Term> all = new ArrayList<>();
            subterms(e.left, all);
            subterms(e.right, all);
            if (!e.parts.isEmpty() || !e.ordinary) {
                return false;
            }
            for (Term t : all) {
                if (!t.isVariable() && (t.op.assoc || t.op.id != null)) {
                    return false;
                }
            }
        }
        return true;
    }

    private void judgePairs() {
        if (pairsJudged) {
            return;
        }
        pairsJudged = true;
        pairCount = 0;
        openCount = 0;
        pairStop = 0;
        apart = new ArrayList<>();
        begin(3000000);
        try {
            for (Law i : equations) {
                for (Law j : equations) {
                    pairsAt(i, j, new ArrayList<>(), j.left);
                }
            }
        } catch (Stop s) {
            pairStop = s.code;
        }
    }

    private void countPair() {
        if (pairCount + openCount > 4000) {
            throw new Stop(2);
        }
    }

    private void pairsAt(Law i, Law j, List<Integer> path, Term here) {
        if (here.isVariable()) {
            return;
        }
        boolean comm = false;
        List<Term> all = new ArrayList<>();
        subterms(j.left, all);
        for (Term t : all) {
            comm |= !t.isVariable() && t.op.comm;
        }
        boolean skipped = path.isEmpty() && (i.number > j.number || (i == j && !comm));
        if (!skipped) {
            Map<Integer, Term> away = new HashMap<>();
            for (int v = 0; v < variables.size(); v++) {
                away.put(v, variable(v + 30));
            }
            Term left = put(i.left, away);
            Term right = put(i.right, away);
            List<Term[]> twos = new ArrayList<>();
            twos.add(new Term[] {left, here});
            unify(twos, new HashMap<>(), 0, bound -> {
                pairCount++;
                countPair();
                beginAnew();
                Term first = putDeep(j.right, bound);
                Term second = putDeep(replaced(j.left, path, 0, right), bound);
                first = reduced(first, 0);
                second = reduced(second, 0);
                if (!same(first, second)) {
                    apart.add(new Object[] {i.number, j.number, first, second});
                }
                return false;
            });
        }
        for (int k = 0; k < here.row.size(); k++) {
            List<Integer> longer = new ArrayList<>(path);
            longer.add(k);
            pairsAt(i, j, longer, here.row.get(k));
        }
    }

    private Term putDeep(Term t, Map<Integer, Term> bound) {
        if (t.isVariable()) {
            return bound.containsKey(t.variable) ? putDeep(bound.get(t.variable), bound) : t;
        }
        List<Term> row = new ArrayList<>();
        for (Term inner : t.row) {
            row.add(putDeep(inner, bound));
        }
        return make(t.op, row);
    }

    private void unify(List<Term[]> twos, Map<Integer, Term> bound, int looked, Predicate<Map<Integer, Term>> then) {
        if (twos.isEmpty()) {
            then.test(bound);
            return;
        }
        if (looked == 150) {
            throw new Stop(5);
        }
        Term a = putDeep(twos.get(0)[0], bound);
        Term b = putDeep(twos.get(0)[1], bound);
        List<Term[]> others = twos.subList(1, twos.size());
        if (same(a, b)) {
            unify(others, bound, looked + 1, then);
            return;
        }
        if (!a.isVariable() && !b.isVariable()) {
            if (a.op != b.op) {
                return;
            }
            for (int turn = 0; turn < (a.op.comm ? 2 : 1); turn++) {
                List<Term[]> more = new ArrayList<>();
                int n = a.row.size();
                for (int k = 0; k < n; k++) {
                    more.add(new Term[] {a.row.get(k), b.row.get(turn == 0 ? k : n - 1 - k)});
                }
                more.addAll(others);
                unify(more, bound, looked + 1, then);
            }
            return;
        }
        if (a.isVariable() && b.isVariable()) {
            Map<Integer, Term> more = new HashMap<>(bound);
            if (under[a.least][b.least]) {
                more.put(b.variable, a);
            } else if (under[b.least][a.least]) {
                more.put(a.variable, b);
            } else {
                boolean open = false;
                for (int s = 0; s < sorts.size(); s++) {
                    open |= under[s][a.least] && under[s][b.least];
                }
                tellOpen(open);
                return;
            }
            unify(others, more, looked + 1, then);
            return;
        }
        Term v = a.isVariable() ? a : b;
        Term t = a.isVariable() ? b : a;
        if (t.vars.contains(v.variable)) {
            return;
        }
        if (t.least >= 0 && under[t.least][v.least]) {
            Map<Integer, Term> more = new HashMap<>(bound);
            more.put(v.variable, t);
            unify(others, more, looked + 1, then);
            return;
        }
        boolean open = false;
        for (int[] row : t.op.rows) {
            open |= under[row[t.op.holes]][v.least];
        }
        tellOpen(open);
    }

    private void tellOpen(boolean open) {
        if (open) {
            openCount++;
            countPair();
        }
    }

    int pairs(int what) {
        if (what < 0 || what > 2) {
            return BAD;
        }
        if (!arePairsLookedAt()) {
            return NONE;
        }
        judgePairs();
        if (pairStop > 0) {
            latestStop = pairStop;
            return -20 - pairStop;
        }
        return what == 0 ? pairCount : what == 1 ? apart.size() : openCount;
    }

    int pair(int i, int what) {
        if (i < 0 || what < 0 || what > 3 || !arePairsLookedAt()) {
            return BAD;
        }
        judgePairs();
        if (pairStop > 0) {
            latestStop = pairStop;
            return -20 - pairStop;
        }
        if (i >= apart.size()) {
            return BAD;
        }
        Object found = apart.get(i)[what];
        return what < 2 ? (Integer) found : handle((Term) found);
    }
}
