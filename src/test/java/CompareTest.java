import java.util.Random;

/** Random runs of calls: the class answers what the plain second program answers. */
final class CompareTest {
    /** What an object answers behind as many calls is free. */
    private static final int MOST_CALLS = 512, MOST_TOLD = 5;
    private static final int ANY = 0, FREE = 1, SPOILT = 2, ROWS = 3, LOOSE = 4, FLAVOURS = 5;
    private static long compared;
    private static int wrong;

    private final Random random;
    private final RandomTexts texts;
    private final int flavour;
    private final RewriteHouse x = new RewriteHouse();
    private final PlainHouse y = new PlainHouse();
    private final StringBuilder log = new StringBuilder();
    private int calls;
    private boolean same = true;

    private CompareTest(long seed, int flavour) {
        random = new Random(seed);
        texts = new RandomTexts(random);
        this.flavour = flavour;
    }

    public static void main(String[] args) throws InterruptedException {
        long from = args.length > 1 ? Long.parseLong(args[0]) : 0;
        long to = args.length > 1 ? Long.parseLong(args[1]) : 400;
        // the plain program has a call open for each STEP
        Thread thread = new Thread(null, () -> {
            for (long seed = from; seed < to && wrong < MOST_TOLD; seed++) {
                for (int flavour = 0; flavour < FLAVOURS; flavour++) {
                    new CompareTest(seed, flavour).run(seed);
                }
            }
        }, "compare", 1L << 26);
        thread.start();
        thread.join();
        System.out.println(compared + " answers, " + wrong + " runs wrong");
        System.exit(wrong == 0 && compared > 0 ? 0 : 1);
    }

    private void run(long seed) {
        for (int modules = texts.often(20) ? 2 : 1; modules > 0 && same; modules--) {
            String text = flavour == ROWS ? texts.rows() : texts.module(flavour == FREE);
            boolean good = module(texts.often(flavour == SPOILT ? 90 : 8) ? texts.spoilt(text) : text);
            int limit = calls + (!good ? 10 : modules > 1 ? 120 : 300);
            for (int k = 0; k < 4 && same; k++) {
                newTerm();
            }
            while (same && calls < limit && calls + 100 < MOST_CALLS) {
                call();
            }
        }
        if (!same || calls > MOST_CALLS) {
            wrong++;
            System.out.println("seed " + seed + ", flavour " + flavour + ", " + calls + " calls\n" + log);
        }
    }

    private int due(String call, int got, int want) {
        calls++;
        compared++;
        if (same) {
            log.append("  ").append(call).append(" -> ").append(got).append('\n');
        }
        if (same && got != want) {
            same = false;
            log.append("  due is ").append(want).append('\n');
        }
        return want;
    }

    private void feed(String text) {
        log.append("  text ").append(text.replace("\n", "\\n")).append('\n');
        for (int at = 0; at < text.length(); at += 20) {
            int[] five = new int[5];
            for (int k = 0; k < 20; k++) {
                five[k / 4] = five[k / 4] << 8 | (at + k < text.length() ? text.charAt(at + k) & 255 : 32);
            }
            due("feed", x.feed(five[0], five[1], five[2], five[3], five[4]), y.feed(five[0], five[1], five[2], five[3], five[4]));
        }
        int behind = text.length() % 20;
        if (behind > 0) {
            due("end", x.end(behind), y.end(behind));
        }
    }

    private void fault() {
        for (int what = 0; what < 2; what++) {
            due("fault " + what, x.fault(what), y.fault(what));
        }
    }

    private void counts(int from) {
        for (int what = from; what <= 10; what++) {
            due("count " + what, x.count(what), y.count(what));
        }
    }

    private boolean module(String text) {
        feed(text.length() > 3000 ? text.substring(0, 3000) : text);
        int answer = due("module", x.module(), y.module());
        fault();
        counts(0);
        return answer >= 0;
    }

    private int handle() {
        return texts.often(4) ? texts.any(220) - 5 : texts.any(Math.max(1, y.count(7)));
    }

    private void newTerm() {
        String text = flavour == ROWS && texts.often(70) ? texts.row() : flavour == LOOSE && texts.often(80) ? texts.loose()
                : texts.term(1 + texts.any(4), texts.often(50));
        feed(texts.often(6) ? texts.spoilt(text) : text);
        int answer = due("term", x.term(), y.term());
        fault();
        show(answer);
    }

    /** Of what a term is printed as some bytes: all would be too many calls. */
    private void show(int h) {
        int size = h < 0 || h >= y.count(7) ? -1 : due("print " + h, x.print(h, -1), y.print(h, -1));
        for (int n = 0; n < 4 && size > 0; n++) {
            int i = texts.any(size + (n == 0 ? 2 : 0));
            due("print " + h + " " + i, x.print(h, i), y.print(h, i));
        }
    }

    private void call() {
        if (flavour == LOOSE && texts.often(60)) {
            newTerm();
        }
        int what = texts.any(24);
        if (what < 10) {
            callOfTerms(what);
        } else if (what < 20) {
            callOfWays(what);
        } else {
            callOfJudging(what);
        }
        if (y.count(7) > 190 && texts.often(70)) {
            due("forget", x.forget(), y.forget());
        }
    }

    private void callOfTerms(int what) {
        int h = handle();
        int k = handle();
        int i = texts.any(12) - 1;
        int s = texts.any(7) - 1;
        switch (what) {
            case 0:
                newTerm();
                break;
            case 1:
                for (int field = -1; field <= 6; field++) {
                    due("about " + h + " " + field, x.about(h, field), y.about(h, field));
                }
                break;
            case 2:
                due("part " + h + " " + i, x.part(h, i), y.part(h, i));
                break;
            case 3:
                due("order " + h + " " + k, x.order(h, k), y.order(h, k));
                break;
            case 4:
                due("below " + s + " " + i, x.below(s, i), y.below(s, i));
                due("kind " + s, x.kind(s), y.kind(s));
                break;
            case 5:
                int field = texts.any(9) - 1;
                due("operator " + i + " " + field, x.operator(i, field), y.operator(i, field));
                break;
            default:
                match(h, k, texts.often(50));
                break;
        }
    }

    private void match(int p, int t, boolean within) {
        int many = due("match " + p + " " + t + " " + within, x.match(p, t, within), y.match(p, t, within));
        counts(8);
        for (int n = 0; n < 3 && many > 0; n++) {
            int i = n == 0 ? many - 1 : texts.any(many);
            int v = texts.any(8) - 2;
            int h = due("bound " + i + " " + v, x.bound(i, v), y.bound(i, v));
            show(h);
        }
        int v = texts.any(70) - 5;
        due("bound 0 " + v, x.bound(0, v), y.bound(0, v));
    }

    private void callOfWays(int what) {
        int h = handle();
        int i = texts.any(12) - 1;
        int field = texts.any(6) - 1;
        switch (what) {
            case 10:
            case 11:
                show(due("reduce " + h, x.reduce(h), y.reduce(h)));
                break;
            case 12:
            case 13:
                results(due("steps " + h, x.steps(h), y.steps(h)));
                break;
            case 14:
            case 15:
                results(due("states " + h, x.states(h), y.states(h)));
                laws();
                break;
            case 16:
            case 17:
                String plan = texts.strategy(3);
                feed(texts.often(10) ? texts.spoilt(plan) : plan);
                results(due("strategy " + h, x.strategy(h), y.strategy(h)));
                fault();
                break;
            default:
                due("result " + i, x.result(i), y.result(i));
                due("way " + i + " " + field, x.way(i, field), y.way(i, field));
                laws();
                break;
        }
        counts(7);
    }

    private void results(int many) {
        for (int n = 0; n < 4 && many > 0; n++) {
            int i = n == 0 ? many - 1 : texts.any(many);
            show(due("result " + i, x.result(i), y.result(i)));
            int field = texts.any(5);
            due("way " + i + " " + field, x.way(i, field), y.way(i, field));
        }
    }

    private void laws() {
        int p = handle();
        int q = handle();
        int i = texts.any(3);
        due("search " + p + " " + i, x.search(p, i), y.search(p, i));
        int kind = texts.any(5) - (texts.often(10) ? 1 : 0);
        due("law " + kind + " " + p + " " + q, x.law(kind, p, q), y.law(kind, p, q));
    }

    private void callOfJudging(int what) {
        int which = texts.any(4) - (texts.often(10) ? 1 : 0);
        int i = texts.any(5) - (texts.often(10) ? 1 : 0);
        if (what < 22) {
            due("check " + which, x.check(which), y.check(which));
            due("witness " + which + " " + i, x.witness(which, i), y.witness(which, i));
            return;
        }
        due("pairs " + which, x.pairs(which), y.pairs(which));
        for (int field = 0; field < 4; field++) {
            int answer = due("pair " + i + " " + field, x.pair(i, field), y.pair(i, field));
            show(field > 1 ? answer : -1);
        }
        counts(9);
    }
}
