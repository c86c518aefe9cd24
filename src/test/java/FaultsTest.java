/** Promise 4: each FAULT of a module, with its place. */
final class FaultsTest {
    private static final House H = new House("fault");
    private static final String BASE = "sort A B . subsort A < B . op a : -> A . op b : -> B . op f : B -> B . op _ + _ : B B -> B [ gather & & ] . var X Y : B . ";

    public static void main(String[] args) {
        first();
        tooMany();
        names();
        operators();
        readings();
        variables();
        orders();
        System.exit(House.ending());
    }

    private static void first() {
        H.at(1, "@foo A .");
        H.at(1, "sort A @");
        H.at(1, "sort A  \n@");
        H.at(1, "sort @. ");
        H.at(1, "sort A @( .");
        H.at(1, "sort A @-> .");
        H.at(1, "sort A @\001 .");
        H.at(1, "sort A B@\177 .");
        H.at(1, "sort A B@\t .");
        H.at(1, "sort A @abcdefghijklmnopq .");
        H.at(1, "sort A @abcdefghijklmnop\001q .");
        H.good("sort A abcdefghijklmnop .", 0);
        H.at(1, "fo@\001o A .");
        H.at(1, "sort A . subsort A @.");
        H.at(1, "sort A . subsort @< A .");
        H.at(1, "sort A . subsort A < @.");
        H.at(1, "sort A . subsort A < A < @.");
        H.at(1, "sort A . var X @.");
        H.at(1, "sort A . var @: A .");
        H.at(1, "sort A . var X : A @A .");
        H.at(1, "sort A . op a @-> A .");
        H.at(1, "sort A . op a : A @.");
        H.at(1, "sort A . op a : -> @.");
        H.at(1, "sort A . op a : -> A @A .");
        H.at(1, "sort A . op a : -> A [ @] .");
        H.at(1, "sort A . op a : -> A [ @foo ] .");
        H.at(1, "sort A . op a : -> A [ prec @123 ] .");
        H.at(1, "sort A . op a : -> A [ prec @x ] .");
        H.at(1, "sort A . op a : -> A [ prec @] .");
        H.at(1, "sort A . op a : -> A [ id @( ] .");
        H.at(1, "sort A . op a : -> A [ id @: ] .");
        H.at(1, "sort A . op a : -> A [ gather e @x ] .");
        H.at(1, "sort A . op a : -> A [ prec 1 @.");
        H.at(1, BASE + "eq @= a .");
        H.at(1, BASE + "eq a = @.");
        H.at(1, BASE + "eq a @=> a .");
        H.at(1, BASE + "eq a = a if @.");
        H.at(1, BASE + "eq a = a if a @.");
        H.at(1, BASE + "eq a = a if a = a /\\ @.");
        H.at(1, BASE + "eq a = a if a : @( .");
        H.at(1, BASE + "rl @: a => a .");
        H.at(1, BASE + "rl r @a => a .");
        H.at(1, BASE + "rl r : a @= a .");
        H.at(1, BASE + "eq a = a if a = a @:= a .");
    }

    private static String many(String before, int from, int to, String after) {
        StringBuilder text = new StringBuilder(before);
        for (int k = from; k <= to; k++) {
            text.append(after.replace("#", "" + k));
        }
        return text.toString();
    }

    private static void tooMany() {
        H.good(many("sort ", 1, 20, "S# ") + ".", 0);
        H.at(2, many("sort ", 1, 20, "S# ") + "@S21 .");
        H.good(many("sort A . ", 1, 50, "op a# : -> A . "), 50);
        H.at(2, many("sort A . ", 1, 50, "op a# : -> A . ") + "@op b : -> A .");
        H.good(many("sort A . var ", 1, 30, "X# ") + ": A .", 0);
        H.at(2, many("sort A . var ", 1, 30, "X# ") + "@X31 : A .");
        H.good(many("sort A . op a : -> A . ", 1, 40, "eq a = a . "), 1);
        H.at(2, many("sort A . op a : -> A . ", 1, 40, "eq a = a . ") + "@oeq a = a .");
        H.good(many("sort A . op a : -> A . ", 1, 30, "rl r : a => a . "), 1);
        H.at(2, many("sort A . op a : -> A . ", 1, 30, "rl r : a => a . ") + "@rl r : a => a .");
        H.good(many("sort A . op a : -> A . eq a = a if a = a ", 1, 5, "/\\ a = a ") + ".", 1);
        H.at(2, many("sort A . op a : -> A . eq a = a if a = a ", 1, 5, "/\\ a = a ") + "/\\ @a = a .");
        String row = "sort A . op a : -> A . op s _ : A -> A . eq ";
        H.good(many(row, 1, 31, "s ") + "a = a .", 2);
        H.at(2, row + "@" + many("", 1, 32, "s ") + "a = a .");
        String rule = "rl r : a => a if a = a" + many("", 1, 5, " /\\ a = a") + " . ";
        String full = "sort A . op a : -> A . " + many("", 1, 28, rule) + "eq a = a . " + many("sort ", 1, 16, "B# ") + ".";
        H.due("words", full.split(" ").length, 900);
        H.good(full, 1);
        H.good(full + " *** one more", 1);
        H.at(2, full + " @sort C .");
        H.at(1, full + " @C");
    }

    private static void names() {
        H.at(3, "sort A B @A .");
        H.at(3, "sort A . sort @A .");
        H.at(3, "sort A . var X : A . var Y @X : A .");
        H.at(3, "sort A . @op : -> A .");
        H.at(3, "sort A . @op _ : A -> A .");
        H.at(3, "sort A . @op _ + _ : A -> A .");
        H.at(3, "sort A . @op f g : A -> A .");
        H.at(3, "sort A . @op ( : A -> A .");
        H.at(3, "sort A . @op a _ : -> A .");
        H.at(3, "sort A . @op f : A A A A -> A .");
        H.at(3, "sort A . @op _ _ _ _ : A A A A -> A .");
        H.good("sort A . op a b c d e f g h i j k l : -> A .", 1);
        H.at(3, "sort A . @op a b c d e f g h i j k l m : -> A .");
        H.good("sort A . op a_b_c_ : A A A -> A .", 1);
        H.good("sort A . op _=_ : A A -> A .", 1);
        H.at(4, "sort A . op a : -> @B .");
        H.at(4, "sort A . op f : A @B -> A .");
        H.at(4, "sort A . var X : @B .");
        H.at(4, "sort A . subsort A < @B .");
        H.at(4, "sort A . op a : -> A . eq a = a if a : @B .");
        H.good("op a : -> A . sort A .", 1);
        H.at(4, "sort A . subsort A @< A .");
        H.at(4, "sort A B . subsort A < B . subsort B @< A .");
        H.at(4, "sort A B C . subsort A < B < C @< A .");
        H.at(4, "sort A B C . subsort A B @< B C .");
        H.good("sort A B C . subsort A B < C . subsort A < B .", 0);
    }

    private static void operators() {
        H.at(5, BASE + "@op g : B B -> B [ comm comm ] .");
        H.at(5, BASE + "@op g : B -> B [ comm ] .");
        H.at(5, "sort A B . @op g : A B -> A [ comm ] .");
        H.at(5, "sort A B . @op g : A A -> B [ assoc ] .");
        H.good("sort A B . op g : A A -> B [ comm ] .", 1);
        H.at(5, BASE + "@op g : B B -> B [ id c ] .");
        H.at(5, BASE + "@op g : B B -> B [ id f ] .");
        H.at(5, "sort A B . op b : -> B . @op g : A A -> A [ id b ] .");
        H.at(5, "sort A B . op b : -> B . @op g : A A -> B [ id b ] .");
        H.good("sort A . op g : A A -> A [ id a ] . op a : -> A .", 2);
        H.at(5, BASE + "@op g : B B -> B [ gather e ] .");
        H.at(5, BASE + "@op g : B B -> B [ gather e e e ] .");
        H.at(5, BASE + "@op g : B B -> B [ gather ] .");
        H.good("sort A . op g : A A -> A [ gather e E prec 3 ] .", 1);
        H.at(5, BASE + "@op f : B -> B .");
        H.at(5, BASE + "@op f : A -> A [ prec 3 ] .");
        H.at(5, "sort A B . op a : -> A . @op a : -> B .");
        H.at(5, "sort A B C . subsort A < B . op f : A -> A . @op f : B -> C .");
        H.at(5, "sort A . op f : A -> A . @op f ( _ ) : A -> A .");
        H.good("sort A B . op f : A -> A . op f : B -> A .", 2);
        H.at(5, BASE + "@op h : B B -> B [ assoc assoc ] . op f : B -> B .");
    }

    private static void readings() {
        H.at(6, BASE + "eq @a b = a .");
        H.at(6, BASE + "eq @c = a .");
        H.at(7, BASE + "eq @a + a + a = a .");
        H.at(6, BASE + "sort C . op c : -> C . eq a = @c .");
        H.at(6, BASE + "sort C . op c : -> C . eq a = a if c = @a .");
        H.at(6, BASE + "sort C . op c : -> C . eq a = a if @c : A .");
        H.at(7, BASE + "var a : B . eq @f ( a ) = b .");
        H.good("sort A C . op a : -> A . var a : C . op f : A -> A . eq f ( a ) = f ( a ) .", 2);
        H.at(7, "sort A C . op a : -> A . var a : C . op f : A -> A . eq @a = f ( a ) .");
        H.at(7, "sort A . op a : -> A . op ( _ ) : A -> A . eq @( a ) = a .");
        StringBuilder big = new StringBuilder("sort A . op a : -> A . op _ _ : A A -> A . eq a = @");
        for (int k = 0; k < 21; k++) {
            big.append("a ");
        }
        H.at(6, big + ".");
        H.good(big.substring(0, big.length() - 2).replace("@", "") + ".", 2);
    }

    private static void variables() {
        H.at(8, BASE + "eq @X = a .");
        H.at(8, BASE + "rl r : @X => a .");
        H.at(8, BASE + "eq f ( a ) = @X .");
        H.at(8, BASE + "eq f ( X ) = a if @Y = X .");
        H.at(8, BASE + "eq f ( X ) = a if X = @Y .");
        H.at(8, BASE + "eq f ( X ) = a if @Y : A .");
        H.at(8, BASE + "eq f ( X ) = a if Y := @Y .");
        H.good(BASE + "eq f ( X ) = Y if Y := X /\\ f ( Y ) = X .", 4);
        H.at(8, "sort A . op e : -> A . op _ + _ : A A -> A [ id e ] . var X : A . eq @X + e = X .");
    }

    private static void orders() {
        // of 3 and 4 the least place counts
        H.at(4, "sort A . var X : @B . var X : A .");
        H.at(3, "sort A . var X : A . var @X : B .");
        H.at(3, "sort A . @op _ : B -> A .");
        // of 1 the first place counts, bytes and words alike
        H.at(1, "@foo A . \001");
        H.at(1, "sort A\001 . foo".replace("A", "A@"));
        H.at(1, "sort A . @foo abcdefghijklmnopqrs");
        // 1 ahead of 3, 4; these ahead of 5; 5 ahead of 6
        H.at(1, "sort A A . op a : -> B . op @");
        H.at(4, "sort A . op g : A -> A [ comm ] . op h : -> @B .");
        H.at(5, "sort A . op a : -> A . eq a = b . @op g : A -> A [ comm ] .");
        // left side, C, right side
        H.at(6, BASE + "eq f ( X ) = Y if @c = a .");
        H.at(8, BASE + "eq f ( X ) = c if @Y = a .");
        // 20 sorts are one thing, names told twice another
        H.at(3, many("sort A ", 2, 19, "S# ") + "@A .");
    }
}
