/** Many terms in one object's calls: what handles and RESULTS have stays, when others make room. */
final class RoomTest {
    public static void main(String[] args) {
        StringBuilder text = new StringBuilder("sort T B S . subsort T < B . op n : -> B . op _ _ : B B -> B [ assoc comm id n ] . op k : S S S -> S . op f : B -> S . op s : -> S . var B C : B . ");
        for (char c = 'A'; c <= 'T'; c++) {
            text.append("op ").append(c == 'B' || c == 'C' ? "" + c + c : "" + c).append(" : -> T . ");
        }
        text.append("eq f ( B C ) = s if B = f . rl r : A => D . rl r : D => E .".replace("B = f", "B = n /\\ C = n"));
        House h = new House("room").with(text.toString());
        int kept = h.term("k ( f ( A D E ) , f ( G H I J K ) , s )");
        int steps = h.x.steps(kept);
        h.due("steps", steps, 2);
        String shown = h.shown(kept);
        for (int round = 0; round < 45; round++) {
            String term = "k ( f ( " + bag(round) + " ) , f ( " + bag(round + 50) + " ) , f ( " + bag(round + 100) + " ) )";
            int t = h.term(term);
            int end = h.x.reduce(t);
            h.due(term, h.x.order(t, end), 0);
            h.due("STEPS", h.x.count(10), 0);
        }
        h.due("the handle", h.shown(kept), shown);
        h.due("RESULTS", h.x.count(8), 2);
        h.due("RESULTS", h.shown(h.x.result(0)), "k ( f ( D D E ) , f ( G H I J K ) , s )");
        h.due("RESULTS", h.shown(h.x.result(1)), "k ( f ( A E E ) , f ( G H I J K ) , s )");
        h.due("a handle of the last round", h.x.about(h.x.count(7) - 3, 0), 25);
        h.due("its last part is of six", h.x.part(h.x.count(7) - 3, 2) > 0 ? 1 : 0, 1);
        h.due("it", h.shown(h.x.count(7) - 1), "f ( " + bag(144) + " )");
        System.exit(House.ending());
    }

    /** Six tokens, others for each number, in ORDER. */
    private static String bag(int number) {
        String tokens = "ADEFGHIJKLMNOPQRST";
        boolean[] in = new boolean[tokens.length()];
        int at = number;
        for (int n = 0; n < 6; n++) {
            at = (at * 7 + number / 18 + 5) % 18;
            while (in[at]) {
                at = (at + 1) % 18;
            }
            in[at] = true;
        }
        StringBuilder text = new StringBuilder();
        for (int k = 0; k < 18; k++) {
            text.append(in[k] ? (text.length() > 0 ? " " : "") + tokens.charAt(k) : "");
        }
        return text.toString();
    }
}
