import java.util.Random;

/** Many terms in one object's calls: what handles and RESULTS have stays, when others make room. */
final class RoomTest {
    private static final String TOKENS = "ADEFGHIJKLMNOPQRSTUV";

    public static void main(String[] args) {
        StringBuilder text = new StringBuilder("sort T B S . subsort T < B . op n : -> B . op _ _ : B B -> B [ assoc comm id n ] . op k : S S S -> S . op f : B -> S . op s : -> S . var B C : B . ");
        for (int k = 0; k < TOKENS.length(); k++) {
            text.append("op ").append(TOKENS.charAt(k)).append(" : -> T . ");
        }
        // each f lists all ways to deal its bag, and none goes
        text.append("eq f ( B C ) = s if B = n /\\ C = n . rl r : A => D . rl r : D => E . op g : B -> S . var t : T . eq g ( t B ) = g ( B ) if t = A . eq g ( n ) = s .");
        House h = new House("room").with(text.toString());
        String first = "k ( f ( A D E ) , f ( G H I J K ) , s )";
        int kept = h.term(first);
        h.due("steps", h.x().steps(kept), 2);
        for (int round = 0; round < 45; round++) {
            int t = h.term(term(round));
            h.due("at REST", h.x().order(t, h.x().reduce(t)), 0);
        }
        h.due("the handle", h.x().order(kept, h.term(first)), 0);
        h.due("one of the first round", h.x().order(1, h.term(term(0))), 0);
        h.due("one of the last round", h.x().order(90, h.term(term(44))), 0);
        h.due("RESULTS", h.x().count(8), 2);
        h.due("RESULT 0", h.x().order(h.x().result(0), h.term("k ( f ( D D E ) , f ( G H I J K ) , s )")), 0);
        h.due("RESULT 1", h.x().order(h.x().result(1), h.term("k ( f ( A E E ) , f ( G H I J K ) , s )")), 0);
        h.due("part", h.x().order(h.x().part(90, 0), h.x().part(h.term(term(44)), 0)), 0);
        // terms that are the same are one, however long ago they were made
        h.due("the same under a pattern", h.x().match(h.x().part(kept, 0), h.x().part(h.term(first), 0), false), 1);
        h.due("equations are as they were", h.x().order(h.x().reduce(h.term("g ( A A A )")), h.term("s")), 0);
        h.due("rules are as they were", h.x().steps(h.term("D D")), 1);
        printed(text.toString());
        keptResults();
        manyInOneCall();
        System.exit(House.ending());
    }

    /** 120 STATES, for each of which a rule asks for a bag of six that no other has, and all that can be taken of it. */
    private static void manyInOneCall() {
        StringBuilder text = new StringBuilder("sort C D P T B S . subsort T < B . op n : C D -> P . op _ _ : B B -> B [ assoc comm ] . op bag : P -> B . op f : B -> S . op st : P -> S . op no : -> S . var P : P . var B : B . ");
        for (String token : new String[] {"u", "v", "w", "x", "y", "z"}) {
            text.append("op ").append(token).append(" : P -> T . ");
        }
        for (int k = 0; k < 12; k++) {
            text.append(k < 10 ? "op c" + k + " : -> C . " : "").append("op d").append(k).append(" : -> D . ");
            text.append(k < 9 ? "rl r : c" + k + " => c" + (k + 1) + " . " : "").append(k < 11 ? "rl r : d" + k + " => d" + (k + 1) + " . " : "");
        }
        text.append("eq bag ( P ) = u ( P ) v ( P ) w ( P ) x ( P ) y ( P ) z ( P ) . eq f ( B B ) = no . rl chk : st ( P ) => no if no = f ( bag ( P ) ) .");
        House h = new House("many in one call").with(text.toString());
        int first = h.term("st ( n ( c0 , d0 ) )");
        for (int round = 0; round < 3; round++) {
            h.due("STATES", h.x().states(first), 120);
            h.due("STEPS", h.x().count(10), 9 * 12 + 10 * 11 + 120);
            h.dueTerm("the last one", h.x().result(119), "st ( n ( c9 , d11 ) )");
            h.due("the middle", h.x().search(h.term("st ( n ( c5 , d5 ) )"), 0) > 0 ? 1 : 0, 1);
int bag = h.x().part(h.x().reduce(h.term("f ( bag ( n ( c5 , d5 ) ) )")), 0);
            h.due("a bag of six", h.x().about(bag, 4), 6);
            h.dueTerm("its last", h.x().part(bag, 5), "z ( n ( c5 , d5 ) )");
        }
    }

    /** RESULTS of each call stay, when others make room: bags that are others with each of 441 STEPS, and what can be taken of them. */
    private static void keptResults() {
        String module = "sort N T B S . subsort T < B . op 0 : -> N . op s_ : N -> N . op q : N N N -> T . op a : -> T . op b : -> T . op c : -> T . op _ _ : B B -> B [ assoc comm ] . op f : B -> S . op no : -> S ."
                + " var N M K : N . var B C : B . eq f ( B B ) = no . eq f ( q ( N , M , s K ) B ) = f ( q ( N , M , K ) B ) . eq f ( q ( N , s M , 0 ) B ) = f ( q ( N , M , s s s s s s 0 ) B ) . eq f ( q ( s N , 0 , 0 ) B ) = f ( q ( N , s s s s s s 0 , s s s s s s 0 ) B ) ."
                + " rl r : a => b . rl r : b => c .";
        for (int what = 0; what < 4; what++) {
            House h = new House("kept results").with(module);
            int t = h.term("a b");
            int due = what == 0 ? h.x().match(h.term("B C"), h.term("a b c"), false) : what == 1 ? h.x().states(t) : what == 2 ? h.strategy(t, "r *") : h.x().steps(t);
            String[] texts = what == 0 ? new String[] {"a", "b", "c", "a b", "a c", "b c"} : what == 3 ? new String[] {"b b", "a c"} : new String[] {"a b", "b b", "a c", "b c", "c c"};
            h.due("RESULTS", due, texts.length);
            h.x().forget();
            for (String others : new String[] {"a b c", "a a b", "b b c", "c c a"}) {
                int got = h.x().reduce(h.term("f ( q ( s s s s s s s s s 0 , 0 , 0 ) " + others + " )"));
                h.due("STEPS", h.x().count(10), 441);
                h.dueTerm("at REST", got, "f ( q ( 0 , 0 , 0 ) " + others + " )");
            }
            h.x().forget();
            int found = 0;
            for (String text : texts) {
                int wanted = h.term(text);
                for (int i = 0; i < due; i++) {
                    int got = what == 0 ? h.x().bound(i, 3) : h.x().result(i);
                    found += h.x().order(got, wanted) == 0 ? 1 : 0;
                }
                h.x().forget();
            }
            h.due("each once", found, texts.length);
        }
    }

    /** What was printed last is another term's text, even if that has its number by now. */
    private static void printed(String module) {
        House h = new House("printed").with(module);
        h.due("f ( A )", h.shown(h.term("f ( A )")), "f ( A )");
        h.x().forget();
        int kept = h.term("f ( D )");
        for (int round = 0; round < 60; round++) {
            h.x().reduce(h.term(term(round)));
        }
        h.due("f ( D )", h.shown(kept), "f ( D )");
    }

    private static String term(int round) {
        return "k ( f ( " + bag(round) + " ) , f ( " + bag(round + 100) + " ) , f ( " + bag(round + 200) + " ) )";
    }

    /** Six tokens, others for each number. */
    private static String bag(int number) {
        Random random = new Random(number * 7919L);
        StringBuilder left = new StringBuilder(TOKENS);
        StringBuilder text = new StringBuilder();
        for (int n = 0; n < 6; n++) {
            int at = random.nextInt(left.length());
            text.append(n == 0 ? "" : " ").append(left.charAt(at));
            left.deleteCharAt(at);
        }
        return text.toString();
    }
}
