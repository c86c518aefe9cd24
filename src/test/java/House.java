import java.util.function.IntSupplier;

/** A RewriteHouse for tests: texts are fed as they are, and answers compared with those that are due. */
final class House {
    /** What an object answers behind as many calls is free. */
    private static final int MOST_CALLS = 512;
    private static int wrong;
    private static int looked;
    private final String name;
    private RewriteHouse made = new RewriteHouse();
    private int calls;
    private String told = "";

    House(String name) {
        this.name = name;
    }

    static int ending() {
        System.out.println(looked + " answers, " + wrong + " wrong");
        return wrong == 0 && looked > 0 ? 0 : 1;
    }

    /** The object, for one call. */
    RewriteHouse x() {
        calls++;
        if (calls == MOST_CALLS + 1) {
            wrong++;
            System.out.println(name + ": a test with more than " + MOST_CALLS + " calls of one object, " + Thread.currentThread().getStackTrace()[2]);
        }
        return made;
    }

    /** How many calls the object has had. */
    int calls() {
        return calls;
    }

    void due(String call, long got, long want) {
        looked++;
        if (got != want) {
            wrong++;
            System.out.println(name + ": " + call + " answered " + got + ", due is " + want);
        }
    }

    void due(String call, String got, String want) {
        looked++;
        if (!got.equals(want)) {
            wrong++;
            System.out.println(name + ": " + call + " answered \"" + got + "\", due is \"" + want + "\"");
        }
    }

    /** Puts a text behind the tape. */
    int feed(String text) {
        byte[] bytes = new byte[(text.length() + 19) / 20 * 20];
        for (int k = 0; k < text.length(); k++) {
            bytes[k] = (byte) text.charAt(k);
        }
        int size = 0;
        for (int k = 0; k < bytes.length; k += 20) {
            size = x().feed(number(bytes, k), number(bytes, k + 4), number(bytes, k + 8), number(bytes, k + 12), number(bytes, k + 16));
        }
        int rest = text.length() % 20;
        return rest == 0 ? size : x().end(rest);
    }

    private static int number(byte[] bytes, int at) {
        return (bytes[at] & 255) << 24 | (bytes[at + 1] & 255) << 16 | (bytes[at + 2] & 255) << 8 | (bytes[at + 3] & 255);
    }

    int module(String text) {
        feed(text);
        return x().module();
    }

    /** A new object. */
    House anew() {
        made = new RewriteHouse();
        calls = 0;
        return this;
    }

    /** A new object with a module that has to be without a fault. */
    House with(String text) {
        anew();
        told = text;
        int got = module(text);
        looked++;
        if (got < 0) {
            wrong++;
            System.out.println(name + ": module has fault " + got + " at " + x().fault(0) + " line " + x().fault(1));
        }
        return this;
    }

    /** Unless the object is promised to answer as many calls more: a new one with the same module. */
    boolean spare(int more) {
        boolean spent = calls + more > MOST_CALLS;
        if (spent) {
            with(told);
        }
        return spent;
    }

    /** A new object's module with a fault: its number and its place; nothing is there then. */
    void dueFault(String text, int code, int place) {
        String shown = "module " + (text.length() > 200 ? text.substring(0, 200) + ".." : text);
        anew();
        due(shown, module(text), -10 - code);
        due(shown + " place", x().fault(0), place);
        int line = 1;
        for (int k = 0; k < place; k++) {
            line += text.charAt(k) == 10 ? 1 : 0;
        }
        due(shown + " line", x().fault(1), line);
        int sum = 0;
        for (int what = 0; what <= 10; what++) {
            sum += Math.abs(x().count(what));
        }
        due(shown + " leaves nothing", sum, 0);
    }

    /** A module's fault whose place is where a mark @ stands; the mark itself is left out. */
    void at(int code, String text) {
        dueFault(text.replace("@", ""), code, text.indexOf('@'));
    }

    /** A new object's module without a fault: how many OPERATORS it has. */
    void good(String text, int operators) {
        String shown = "module " + (text.length() > 200 ? text.substring(0, 200) + ".." : text);
        anew();
        due(shown, module(text), operators);
        due(shown + " place", x().fault(0), -2);
        due(shown + " line", x().fault(1), -2);
    }

    int term(String text) {
        feed(text);
        return x().term();
    }

    int strategy(int h, String text) {
        feed(text);
        return x().strategy(h);
    }

    /** What can be seen of an object without changing it. */
    String seen() {
        StringBuilder all = new StringBuilder("counts");
        for (int what = 0; what <= 10; what++) {
            all.append(' ').append(x().count(what));
        }
        all.append(" fault ").append(x().fault(0)).append(' ').append(x().fault(1)).append(" way");
        for (int what = 0; what < 4; what++) {
            all.append(' ').append(x().way(0, what));
        }
        return all.append(" tape ").append(x().end(20)).toString();
    }

    /** A call that is refused, and changes nothing. */
    void refused(String call, IntSupplier asked, int want) {
        String before = seen();
        due(call, asked.getAsInt(), want);
        due(call + " leaves all", seen(), before);
    }

    /** A call that is stopped: the latest STOP is told, and nothing but STEPS changes besides. */
    void stopped(String call, IntSupplier asked, int stop) {
        String before = unstopped();
        due(call, asked.getAsInt(), -20 - stop);
        due(call + ": the latest STOP", x().count(9), stop);
        due(call + " leaves the others", unstopped(), before);
    }

    private String unstopped() {
        return x().count(7) + " handles, " + x().count(8) + " RESULTS, " + x().way(0, 0) + ' ' + x().way(0, 1) + " tape " + x().end(20);
    }

    /** Handles up to a number, all of one TERM. */
    void fillHandles(int h, int upTo) {
        int part = x().part(h, 0);
        due("a handle", part >= 0 ? 1 : 0, 1);
        for (int k = part + 1; k < upTo; k++) {
            x().part(h, 0);
        }
        due("handles", x().count(7), upTo);
    }

    String shown(int h) {
        int size = x().print(h, -1);
        if (size < 0) {
            return "?" + h;
        }
        StringBuilder text = new StringBuilder();
        for (int i = 0; i < size; i++) {
            text.append((char) x().print(h, i));
        }
        return text.toString();
    }

    /** Whether a handle's TERM is that of a text. */
    void dueTerm(String call, int h, String text) {
        int t = term(text);
        due(call + " is " + text, h < 0 || t < 0 ? h : x().order(h, t), 0);
    }

    /** A term reduced, as it is printed; or the number that was answered. */
    String rest(String text) {
        int h = term(text);
        int got = h < 0 ? h : x().reduce(h);
        String shown = got < 0 ? "" + got : shown(got);
        x().forget();
        return shown;
    }

    /** All RESULTS, as they are printed, with ; between. */
    String results() {
        StringBuilder all = new StringBuilder();
        int many = x().count(8);
        for (int i = 0; i < many; i++) {
            int h = x().result(i);
            all.append(i == 0 ? "" : "; ").append(h < 0 ? "" + h : shown(h));
        }
        return all.toString();
    }

    /** All matchers of two texts: bindings of the first variables, then what is ahead and behind. */
    String matchers(String pattern, String term, boolean within, int variables) {
        int p = term(pattern);
        int t = term(term);
        int many = x().match(p, t, within);
        if (many < 0) {
            x().forget();
            return "" + many;
        }
        StringBuilder all = new StringBuilder();
        for (int i = 0; i < many; i++) {
            all.append(i == 0 ? "" : "; ");
            for (int v = 0; v < variables; v++) {
                int h = x().bound(i, v);
                all.append(v == 0 ? "" : ", ").append(h < 0 ? "-" : shown(h));
            }
            int ahead = x().bound(i, -1);
            int behind = x().bound(i, -2);
            all.append(ahead < 0 ? "" : " <" + shown(ahead)).append(behind < 0 ? "" : " >" + shown(behind));
        }
        x().forget();
        return all.toString();
    }
}
