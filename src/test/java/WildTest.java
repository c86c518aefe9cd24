import java.util.Random;

/** Any calls with any numbers: nothing is thrown, the same calls have the same answers, and answers are in their range. */
final class WildTest {
    private static final int[] NUMBERS = {Integer.MIN_VALUE, -1000, -21, -3, -2, -1, 0, 0, 0, 1, 1, 2, 3, 4, 5, 10, 19, 20, 21, 29, 30, 59, 60, 199, 200, Integer.MAX_VALUE};
    private static final String[] WORDS = {"sort", "subsort", "var", "op", "eq", "oeq", "rl", ".", ":", "->", "=", "=>", ":=", "if", "/\\", "(", ")", "[", "]", ",", "_", "_+_", "a", "b", "X", "A",
        "B", "f", "<", "assoc", "comm", "id", "prec", "gather", "e", "E", "&", "5", "41", "\n", "***", "\001", "all", "*", "!", ";", "|", "not", "one", "idle", "abcdefghijklmnopq"};
    private static final String[] MODULES = {
        "sort A . op a : -> A . op b : -> A . op e : -> A . op _+_ : A A -> A [ assoc comm id e ] . op f : A -> A . var X Y : A . eq f ( X + a ) = f ( X ) . rl r : a => b . rl r : X + b => a .",
        "sort A B . subsort B < A . op a : -> A . op b : -> B . op _+_ : A A -> A [ assoc id b ] . op f : A -> A . var X Y : A . var B : B . rl r : X + a => f ( X ) + f ( X ) if Y + B := X .",
        "sort A . op a : -> A . op b : -> A . op f : A -> A . op _+_ : A A -> A [ comm ] . var X Y : A . eq f ( f ( X ) ) = X . eq X + f ( Y ) = f ( X + Y ) . eq f ( X + a ) = b . rl r : f ( X ) => X .",
        "sort A . op a : -> A . op b : -> A . op f : A -> A . op _+_ : A A -> A [ id a ] . var X : A . eq f ( X ) = X + f ( b ) if f ( X ) = X . rl r : a => a + b . rl r : b => f ( a ) ."};
    private static final String[] TERMS = {"a", "b", "X", "a + b", "f ( a + b )", "( a + a ) + ( b + a )", "f ( f ( X ) ) + a", "X + Y", "( X + a ) + f ( Y )", "f ( X )", "( ( ( a + b ) + a ) + b ) + ( a + b )"};
    private static final String[] PLANS = {"all", "r *", "r !", "all ; not ( r )", "one ( r | idle ) *", "( r ! ) * ; all", "r ; r ; r"};

    public static void main(String[] args) {
        House told = new House("wild");
        for (int seed = 0; seed < 400; seed++) {
            StringBuilder first = new StringBuilder();
            StringBuilder second = new StringBuilder();
            run(new Random(seed), first);
            run(new Random(seed), second);
            told.due("run " + seed, first.toString(), second.toString());
        }
        for (int seed = 0; seed < 600; seed++) {
            told.due("behind others " + seed, behind(seed, seed + 10000), behind(seed, -1));
        }
        System.exit(House.ending());
    }

    /** What calls answer from a module on; ahead of it the object may have had others, of which nothing is left. */
    private static String behind(int seed, int others) {
        House h = new House("wild");
        Random random = new Random(others);
        for (int n = 0; n < 60 && others >= 0; n++) {
            call(h, random);
        }
        // the tape is empty then, and STEPS are those of this call
        h.x().module();
        h.module("sort A . op a : -> A .");
        h.x().reduce(h.term("a"));
        StringBuilder answers = new StringBuilder();
        random = new Random(seed);
        answers.append(h.module(module(random)));
        for (int n = 0; n < 40; n++) {
            answers.append(' ').append(call(h, random));
        }
        return answers.toString();
    }

    private static void run(Random random, StringBuilder answers) {
        House h = new House("wild");
        for (int n = 0; n < 60; n++) {
            answers.append(call(h, random)).append(' ');
        }
    }

    private static String any(Random random, String[] from) {
        return from[random.nextInt(from.length)];
    }

    private static String wildText(Random random) {
        StringBuilder text = new StringBuilder();
        for (int n = random.nextInt(40); n > 0; n--) {
            text.append(any(random, WORDS)).append(random.nextInt(8) == 0 ? "" : " ");
        }
        return text.toString();
    }

    /** A module with a word changed, now and then. */
    private static String module(Random random) {
        String[] words = any(random, MODULES).split(" ");
        if (random.nextInt(3) == 0) {
            words[random.nextInt(words.length)] = any(random, WORDS);
        }
        return String.join(" ", words);
    }

    private static int call(House h, Random random) {
        int a = NUMBERS[random.nextInt(NUMBERS.length)];
        int b = NUMBERS[random.nextInt(NUMBERS.length)];
        int c = NUMBERS[random.nextInt(NUMBERS.length)];
        int some = h.x().count(7) == 0 ? a : random.nextInt(h.x().count(7));
        switch (random.nextInt(34)) {
            case 0: return h.module(wildText(random));
            case 1:
            case 2: return h.module(module(random));
            case 3: return h.term(wildText(random));
            case 4:
            case 5:
            case 6:
            case 7: return h.term(any(random, TERMS));
            case 8: return h.strategy(some, any(random, PLANS));
            case 9: return h.strategy(a, wildText(random));
            case 10: return h.x().feed(a, b, c, a, b);
            case 11: return h.x().end(a);
            case 12: return h.x().fault(a);
            case 13: return h.x().count(a);
            case 14: return h.x().about(some, a);
            case 15: return h.x().part(some, a);
            case 16: return h.x().order(some, a);
            case 17: return h.x().print(some, a);
            case 18: return h.x().forget();
            case 19: return h.x().below(a, b);
            case 20: return h.x().kind(a);
            case 21: return h.x().operator(a, b);
            case 22: return h.x().match(some, a, b > 0);
            case 23: return h.x().bound(a, b);
            case 24: return h.x().reduce(some);
            case 25: return h.x().steps(some);
            case 26: return h.x().result(a);
            case 27: return h.x().way(a, b);
            case 28: return h.x().states(some);
            case 29: return h.x().search(some, a);
            case 30: return h.x().law(a, some, b);
            case 31: return h.x().check(a);
            case 32: return h.x().witness(a, b);
            default: return random.nextBoolean() ? h.x().pairs(a) : h.x().pair(a, b);
        }
    }
}
