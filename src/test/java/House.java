/** A RewriteHouse for tests: texts are fed as they are, and answers compared with those that are due. */
final class House {
    private static int wrong;
    private static int looked;
    private final String name;
    RewriteHouse x = new RewriteHouse();

    House(String name) {
        this.name = name;
    }

    static int ending() {
        System.out.println(looked + " answers, " + wrong + " wrong");
        return wrong == 0 && looked > 0 ? 0 : 1;
    }

    void due(String call, long got, long want) {
        looked++;
        if (got != want) {
            wrong++;
            System.out.println(name + ": " + call + " answered " + got + ", due is " + want);
        }
    }

    void due(String call, String got, String want) {
        looked++;
        if (!got.equals(want)) {
            wrong++;
            System.out.println(name + ": " + call + " answered \"" + got + "\", due is \"" + want + "\"");
        }
    }

    /** Puts a text behind the tape. */
    int feed(String text) {
        byte[] bytes = new byte[(text.length() + 19) / 20 * 20];
        for (int k = 0; k < text.length(); k++) {
            bytes[k] = (byte) text.charAt(k);
        }
        int size = 0;
        for (int k = 0; k < bytes.length; k += 20) {
            size = x.feed(number(bytes, k), number(bytes, k + 4), number(bytes, k + 8), number(bytes, k + 12), number(bytes, k + 16));
        }
        int rest = text.length() % 20;
        return rest == 0 ? size : x.end(rest);
    }

    private static int number(byte[] bytes, int at) {
        return (bytes[at] & 255) << 24 | (bytes[at + 1] & 255) << 16 | (bytes[at + 2] & 255) << 8 | (bytes[at + 3] & 255);
    }

    int module(String text) {
        feed(text);
        return x.module();
    }

    /** A module that has to be without a fault. */
    House with(String text) {
        int got = module(text);
        looked++;
        if (got < 0) {
            wrong++;
            System.out.println(name + ": module has fault " + got + " at " + x.fault(0) + " line " + x.fault(1));
        }
        return this;
    }

    /** A module's fault: its number and its place. */
    void dueFault(String text, int code, int place) {
        String told = "module " + (text.length() > 200 ? text.substring(0, 200) + ".." : text);
        due(told, module(text), -10 - code);
        due(told + " place", x.fault(0), place);
        due(told + " leaves nothing", x.count(0) + x.count(2) + x.count(3) + x.count(4), 0);
    }

    int term(String text) {
        feed(text);
        return x.term();
    }

    int strategy(int h, String text) {
        feed(text);
        return x.strategy(h);
    }

    String shown(int h) {
        int size = x.print(h, -1);
        if (size < 0) {
            return "?" + h;
        }
        StringBuilder text = new StringBuilder();
        for (int i = 0; i < size; i++) {
            text.append((char) x.print(h, i));
        }
        return text.toString();
    }

    /** A term reduced, as it is printed; or the number that was answered. */
    String rest(String text) {
        int h = term(text);
        int got = h < 0 ? h : x.reduce(h);
        String shown = got < 0 ? "" + got : shown(got);
        x.forget();
        return shown;
    }

    /** All RESULTS, as they are printed, with ; between. */
    String results() {
        StringBuilder all = new StringBuilder();
        int many = x.count(8);
        for (int i = 0; i < many; i++) {
            int h = x.result(i);
            all.append(i == 0 ? "" : "; ").append(h < 0 ? "" + h : shown(h));
        }
        return all.toString();
    }

    /** All matchers of two texts: bindings of the first variables, then what is ahead and behind. */
    String matchers(String pattern, String term, boolean within, int variables) {
        int p = term(pattern);
        int t = term(term);
        int many = x.match(p, t, within);
        if (many < 0) {
            x.forget();
            return "" + many;
        }
        StringBuilder all = new StringBuilder();
        for (int i = 0; i < many; i++) {
            all.append(i == 0 ? "" : "; ");
            for (int v = 0; v < variables; v++) {
                int h = x.bound(i, v);
                all.append(v == 0 ? "" : ", ").append(h < 0 ? "-" : shown(h));
            }
            int ahead = x.bound(i, -1);
            int behind = x.bound(i, -2);
            all.append(ahead < 0 ? "" : " <" + shown(ahead)).append(behind < 0 ? "" : " >" + shown(behind));
        }
        x.forget();
        return all.toString();
    }
}
