/**
 * 'Terms' IV, sentence by sentence: which CONVS FAIL where, how RULES are counted, a hundred of them and
 * one more, SIZE and HYPS on the way.
 */
public final class ConvBoundsTest extends Checks {
    private static final String START = "var x:i;var y:i;var v:i;var k:i>i;const f:i>i;const c:i;const r:i>i;"
        + "const m:i>i>i;const u:i>o;def d=r;def e=d;thm fv refl f v";
    private static final String THEOREMS = "thm kv refl k v;thm mxy refl m x y;thm mxx refl m x x;"
        + "thm hx assume m x y=x;thm hm assume m x c=m c x;thm tr assume u x;"
        + "thm lam refl \\a:i.m x a;thm one beta(\\a:i.c)y";
    /** Twelve COMBS, one within another: once no uses twelve refl in vain. */
    private static final String DEEP = "f(f(f(f(f(f(f(f(f(f(f(f x)))))))))))";
    /** Twelve, too: an ABS and eleven COMBS. */
    private static final String BOUND = "\\a:i.f(f(f(f(f(f(f(f(f(f(f a))))))))))";

    public static void main(String[] args) {
        whatFails();
        whatIsGiven();
        byFails();
        byMatches();
        insts();
        countsInVain();
        hundredOnCombs();
        hundredOnAbs();
        hundredBySmallTerms();
        hundredByRewrite();
        hundredByUnfold();
        hundredByNormal();
        hundredByDecide();
        withoutAnEnd();
        eachCallBeginsAnew();
        sizeOnTheWay();
        hypsOnTheWay();
        likeTheirConvs();
        end();
    }

    private static TenRules start() {
        return told(START, THEOREMS);
    }

    private static void fails(String text) {
        refuses(text, new Scene(text, START, THEOREMS), x -> x.convert(text.length()), 5);
    }

    private static void noRoom(String text, String... theories) {
        refuses(text, new Scene(text, theories), x -> x.convert(text.length()), 3);
    }

    /** The CONV gives t = u; counts are those of refl, trans, comb, abs, beta, .., inst, eta. */
    private static void gives(String text, String right, int... counts) {
        TenRules x = start();
        int[] before = used(x);
        int t = x.convert(lay(x, text));
        due(text + ", trouble", x.trouble(), 0);
        int[] after = used(x);
        for (int rule = 0; rule < 10; rule++) {
            due(text + ", used " + rule, after[rule] - before[rule], rule < counts.length ? counts[rule] : 0);
        }
        x.writeSide(t, 1);
        due(text, last(x), right);
        x.writeSide(t, 0);
        String left = last(x);
        x.write(lay(x, text.substring(text.indexOf(';') + 1)));
        due(text + ", the left side is t", left, last(x));
    }

    private static int[] used(TenRules x) {
        int[] counts = new int[10];
        for (int rule = 0; rule < 10; rule++) {
            counts[rule] = x.used(rule);
        }
        return counts;
    }

    // ---- On a TERM t it gives a THEOREM t = u, or FAILS

    private static void whatFails() {
        String[] texts = {"no;x", "beta;x", "beta;f x", "beta;\\a:i.a", "beta;f((\\a:i.a)x)", "eta;f",
            "eta;\\a:i.a", "eta;\\a:i.m a a", "eta;\\a:i.f x", "eta;(\\b:i>i.b)(\\a:i.f a)",
            "def;c", "def;x", "def;d x", "left all;x", "left all;\\a:i.a", "left no;f x", "left def;f x",
            "right all;x", "right all;\\a:i.a", "right no;f x", "right def;d x", "in all;x", "in all;f x",
            "in no;\\a:i.a", "once no;x", "once no;f x", "once no;\\a:i.a", "once def;\\a:i.f(r a)",
            "all then no;x", "no then all;x", "no else no;x", "def then def then def;e",
            "all then no else no;x", "left left all;f x", "in in all;\\a:i.a", "(no);x"};
        for (String text : texts) {
            fails(text);
        }
    }

    private static void whatIsGiven() {
        gives("all;f x", "(f x)", 1);
        gives("beta;(\\a:i.f a)y", "(f y)", 0, 0, 0, 0, 1);
        gives("eta;\\a:i.f a", "f", 0, 0, 0, 0, 0, 0, 0, 0, 0, 1);
        gives("def;d", "r");
        gives("def;e", "d");
        gives("all then def;d", "r", 1, 1);
        gives("def then def;e", "r", 0, 1);
        gives("no else def;e", "d");
        gives("def else all;e", "d");
        gives("no else all then def;e", "d", 1, 1);
        gives("def then no else def;e", "r", 0, 1);
        gives("try def;e", "d");
        gives("try no;e", "e", 1);
        gives("rep def;e", "r", 0, 1);
        gives("rep def;d", "r");
        gives("rep def;c", "c", 1);
        gives("rep no;c", "c", 1);
        gives("rep(no else def);e", "r", 0, 1);
        gives("left def;d x", "(r x)", 1, 0, 1);
        gives("right left def;f(d x)", "(f (r x))", 2, 0, 2);
        gives("in left def;\\a:i.d a", "\\i.(r 0)", 1, 0, 1, 1);
        gives("once def;d", "r");
        gives("once def;d(d x)", "(r (d x))", 1, 0, 1);
        gives("once left def;f(d x)", "(f (r x))", 2, 0, 2);
        gives("once def;f(d x)", "(f (r x))", 2, 0, 2);
        gives("once def;\\a:i.d a", "\\i.(r 0)", 1, 0, 1, 1);
        gives("in in all;\\a:i.\\b:i.m a b", "\\i.\\i.((m 0) 1)", 1, 0, 0, 2);
        gives("in in beta;\\a:i.\\b:i.(\\a:i.m a b)a", "\\i.\\i.((m 0) 1)", 0, 0, 0, 2, 1);
        gives("in in eta;\\a:i.\\b:i.\\e:i.m a e", "\\i.\\i.(m 0)", 0, 0, 0, 2, 0, 0, 0, 0, 0, 1);
        gives("in eta then eta;\\a:i.\\b:i.m a b", "m", 0, 1, 0, 1, 0, 0, 0, 0, 0, 2);
    }

    // ---- by

    private static void byFails() {
        fails("by tr;u x");
        fails("by fv;x");
        fails("by fv;r x");
        fails("by fv;f");
        fails("by fv;\\a:i.f a");
        fails("by mxx;m x y");
        fails("by mxx;m(f x)(k x)");
        fails("by hx;m y x");
        fails("by hx;m x c");
        fails("by hm;m y c");
        fails("by lam;\\a:i.m a a");
        fails("by lam;\\a:i.m(f a)a");
        fails("by lam;\\a:o.m x x");
        fails("by lam;\\a:i.m a x");
        fails("in by lam;\\b:i.\\a:i.m(m a b)a");
        fails("by mxy;m y x");
        fails("by mxy;m y c");
        fails("by one;(\\a:i.a)y");
        fails("by kv;\\a:i.a");
        fails("by kv;c");
    }

    private static void byMatches() {
        int inst = 8;
        gives("by fv;f x", "(f x)", counts(inst, 1));
        gives("by fv;f v", "(f v)", counts(inst, 1));
        gives("by kv;r(f c)", "(r (f c))", counts(inst, 2));
        gives("by kv;(\\a:i.a)c", "(\\i.0 c)", counts(inst, 2));
        gives("by mxx;m c c", "((m c) c)", counts(inst, 1));
        gives("by mxx;m(f y)(f y)", "((m (f y)) (f y))", counts(inst, 1));
        gives("by mxy;m c x", "((m c) x)", counts(inst, 2));
        gives("by mxy;m x y", "((m x) y)", counts(inst, 2));
        gives("by hx;m x y", "x");
        gives("by hm;m x c", "((m c) x)");
        gives("by lam;\\a:i.m c a", "\\i.((m c) 0)", counts(inst, 1));
        gives("by lam;\\a:i.m((\\b:i.b)c)a", "\\i.((m (\\i.1 c)) 0)", counts(inst, 1));
        gives("by one;(\\a:i.c)(f x)", "c", counts(inst, 1));
        gives("by d;d", "r");
        int[] in = counts(inst, 1);
        in[3] = 1;
        gives("in by lam;\\b:i.\\a:i.m b a", "\\i.\\i.((m 0) 1)", in);
        gives("in by lam;\\b:i.\\a:i.m(f b)a", "\\i.\\i.((m (f 0)) 1)", in);
    }

    private static int[] counts(int rule, int count) {
        int[] all = new int[10];
        all[rule] = count;
        return all;
    }

    /** VARS of l that are in no HYP, by their numbers, one behind another; others stay. */
    private static void insts() {
        TenRules x = told("var z:i;var a:i;var b:i;const m:i>i>i;const c:i;const n:i>i",
            "thm s beta(\\e:i.m e b)a;thm t refl \\e:i.z;thm p assume n z=a;thm q refl n b",
            "thm o refl m b a");
        due("in r alone", x.convert(lay(x, "by p;n z")), 5);
        due("no inst", x.used(8), 0);
        due("its HYP stays", hyp(x, 5, 0), "((= (n z)) a)");
        due("of l and r", x.convert(lay(x, "by s;(\\e:i.m e c)z")), 6);
        due("two", x.used(8), 2);
        due("both", concl(x, 6), "((= (\\i.((m 0) c) z)) ((m z) c))");
        refused("a by b, then b by a: a, a", x, x.convert(lay(x, "by o;m a b")), 5);
        due("refused: none", x.used(8), 2);
        due("in vain: two", x.convert(lay(x, "by o else all;m a b")), 7);
        due("in vain: two", x.used(8), 4);
        due("a by c, then b by a", x.convert(lay(x, "by o;m a c")), 8);
        due("none is found: none", x.convert(lay(x, "by o else all;n a")), 9);
        due("none is found: none", x.used(8), 6);
        due("under a lambda", x.convert(lay(x, "by t;\\e:i.n c")), 10);
        refused("not its variable", x, x.convert(lay(x, "by t;\\e:i.n e")), 5);
        due("seven", x.used(8), 7);
    }

    // ---- RULES are counted, those in vain, too (a RULE that can't be used isn't)

    private static void countsInVain() {
        gives("(all then no)else all;x", "x", 2);
        gives("(all then all then no)else all;x", "x", 3, 1);
        gives("(beta then no)else all;(\\a:i.a)x", "(\\i.0 x)", 1, 0, 0, 0, 1);
        gives("(eta then no)else all;\\a:i.f a", "\\i.(f 0)", 1, 0, 0, 0, 0, 0, 0, 0, 0, 1);
        gives("(def then no)else all;d", "d", 1);
        gives("(left def then no)else all;d x", "(d x)", 2, 0, 1);
        gives("left no else all;f x", "(f x)", 1);
        gives("right no else all;f x", "(f x)", 2);
        gives("in no else all;\\a:i.a", "\\i.0", 1);
        gives("(in all then no)else all;\\a:i.a", "\\i.0", 2, 0, 0, 1);
        gives("beta else eta else def else all;x", "x", 1);
        gives("left all else right all else in all else all;x", "x", 1);
        gives("once no else all;m(f x)(f y)", "((m (f x)) (f y))", 5);
        gives("rep(all then no);x", "x", 2);
        gives("try(all then no);x", "x", 2);
    }

    // ---- a call .. may use 100 .. One more: NO ROOM

    /** Uses so many RULES in vain on a TERM with twelve levels; one is what uses one alone. */
    private static String vain(int count, String one) {
        return "once once no else ".repeat(count / 90) + "once no else ".repeat(count % 90 / 12)
            + one.repeat(count % 90 % 12);
    }

    /** A CONV that uses so many RULES, of which so many are told by about(4): up to 100 and beyond. */
    private static void hundred(String conv, String term, String one, int uses, int told) {
        String at = vain(100 - uses, one) + conv + ";" + term;
        TenRules x = answers(at, new Scene(at, START, THEOREMS), y -> y.convert(at.length()), 11);
        int before = start().about(4);
        due(at + ", counted", x.about(4) - before, told);
        for (int more = 1; more <= uses; more++) {
            noRoom(vain(100 - uses + more, one) + conv + ";" + term, START, THEOREMS);
        }
    }

    private static void hundredOnCombs() {
        String one = "right no else ";
        hundred("all", DEEP, one, 1, 100);
        hundred("all then all", DEEP, one, 3, 100);
        hundred("try no", DEEP, one, 1, 100);
        hundred("rep no", DEEP, one, 1, 100);
        hundred("left all", DEEP, one, 3, 100);
        hundred("right all", DEEP, one, 3, 100);
        hundred("by fv", DEEP, one, 1, 100);
        hundred("by kv", DEEP, one, 2, 100);
        hundred("left def", "d(" + DEEP.substring(2), one, 2, 100);
        hundred("once def", "d(" + DEEP.substring(2), one, 2, 100);
        hundred("once by fv", "r(" + DEEP.substring(2), one, 3, 100);
        String failing = vain(100, one) + "no;" + DEEP;
        refuses(failing, new Scene(failing, START, THEOREMS), x -> x.convert(failing.length()), 5);
        noRoom(vain(101, one) + "no;" + DEEP, START, THEOREMS);
    }

    /** In uses one, too, as it begins on an ABS, though that is no RULE and isn't counted else. */
    private static void hundredOnAbs() {
        String one = "in no else ";
        // Of once once no 13 are in's: twelve by once no, one by once itself; of once no it is one.
        hundred("all", BOUND, one, 1, 100 - 2 - 9);
        hundred("in all", BOUND, one, 3, 100 - 2 - 7 - 1);
        String failing = vain(100, one) + "no;" + BOUND;
        refuses(failing, new Scene(failing, START, THEOREMS), x -> x.convert(failing.length()), 5);
        noRoom(vain(101, one) + "no;" + BOUND, START, THEOREMS);
        String ins = "in no else ".repeat(33) + "no;\\a:i.a";
        refuses("in's alone", new Scene(ins, START), x -> x.convert(ins.length()), 5);
        String lambdas = "\\a:i.".repeat(12) + "a";
        String many = "once no else ".repeat(8) + one.repeat(4) + "no;" + lambdas;
        refuses(many, new Scene(many, START), x -> x.convert(many.length()), 5);
        noRoom("once no else ".repeat(8) + one.repeat(5) + "no;" + lambdas, START);
        String free = "in no else ".repeat(30) + "all;f x";
        answers("none where there is no ABS", new Scene(free, START), x -> x.convert(free.length()), 3);
    }

    /** Beta and eta as the hundredth and as one more: twelve times once on two levels uses 90. */
    private static void hundredBySmallTerms() {
        String ninety = "once ".repeat(12) + "no else ";
        String eta = ninety + "once no else ".repeat(4) + "in no else eta;\\a:i.f a";
        answers(eta, new Scene(eta, START), x -> x.convert(eta.length()), 3);
        noRoom(ninety + "once no else ".repeat(5) + "eta;\\a:i.f a", START);
        String beta = ninety + "once no else ".repeat(4) + "right no else beta;(\\a:i.a)x";
        answers(beta, new Scene(beta, START), x -> x.convert(beta.length()), 3);
        noRoom(ninety + "once no else ".repeat(5) + "beta;(\\a:i.a)x", START);
        String fails = ninety + "once no else ".repeat(5) + "def;(\\a:i.a)x";
        refuses(fails, new Scene(fails, START), x -> x.convert(fails.length()), 5);
    }

    private static void hundredByRewrite() {
        String concl = "u(" + DEEP.substring(2);
        String one = "right no else ";
        String told = "thm deep assume " + concl;
        String at = vain(98, one) + "all";
        TenRules x = answers(at, new Scene(at, START, told), y -> y.rewrite(3, at.length()), 4);
        due("refl, eqmp and 98", x.about(4), 102);
        String more = vain(99, one) + "all";
        refuses(more, new Scene(more, START, told), y -> y.rewrite(3, more.length()), 3);
        String free = vain(100, one) + "def";
        refuses(free, new Scene(free, START, told), y -> y.rewrite(3, free.length()), 5);
    }

    private static void hundredByUnfold() {
        String sevenOf = "d(d(d(d(d(d(d x";
        String at = "thm a assume u(r(" + sevenOf + "))))))))";
        TenRules x = answers(at, new Scene(null, START, at), y -> y.unfold(3), 4);
        due("a hundred", x.about(4), 102);
        due("unfolded", concl(x, 4), "(u (r (r (r (r (r (r (r (r x)))))))))");
        String more = "thm a assume u(r(d(d(d(d(d(d(d(r x)))))))))";
        refuses(more, new Scene(null, START, more), y -> y.unfold(3), 3);
    }

    private static void hundredByNormal() {
        String at = "u(r(d(d(d(d(d(d(d(r x)))))))))";
        TenRules x = answers(at, new Scene(at, START), y -> y.normal(at.length()), 3);
        due("a hundred", x.about(4), 101);
        String more = "u(r(d(d(d(d(d(d(d(r(r x))))))))))";
        refuses(more, new Scene(more, START), y -> y.normal(more.length()), 3);
    }

    /** NORMAL on both sides, trans and sym() in one hundred. */
    private static void hundredByDecide() {
        String left = "r(d(d(d(d(d(d(d x)))))))";
        String at = left + "=r(r(r(r(r(r(r(r x)))))))";
        TenRules x = answers(at, new Scene(at, START), y -> y.decide(at.length()), 3);
        due("a hundred", x.about(4), 101);
        due("no HYPS", x.theorem(3, 0), 0);
        String more = left + "=d(r(r(r(r(r(r(r x)))))))";
        refuses(more, new Scene(more, START), y -> y.decide(more.length()), 3);
        String unlike = left + "=d(r(r(r(r(r(r(r y)))))))";
        refuses(unlike, new Scene(unlike, START), y -> y.decide(unlike.length()), 5);
    }

    private static void withoutAnEnd() {
        String[] texts = {"rep all;x", "rep try no;x", "rep once all;f x", "rep in all;\\a:i.a",
            "rep left all;f x", "try rep all;x", "rep all else all;x", "rep rep no;x", "once rep all;x",
            "no else(rep all then no)else all;x", "rep by mxy;m x c"};
        for (String text : texts) {
            noRoom(text, START, THEOREMS);
        }
        noRoom("rep once by a;x", "var x:i;const r:i>i;thm a assume x=r x");
        noRoom("rep by a;x", "var x:i;thm a assume x=x");
    }

    private static void eachCallBeginsAnew() {
        TenRules x = start();
        int before = x.about(4);
        for (int i = 0; i < 5; i++) {
            due("a hundred again", x.convert(lay(x, vain(99, "right no else ") + "all;" + DEEP)), 11 + i);
            refused("and one", x, x.convert(lay(x, vain(100, "right no else ") + "all;" + DEEP)), 3);
        }
        due("all of them", x.about(4) - before, 500);
        due("refl of them", x.used(0) - start().used(0), 500);
    }

    // ---- SIZE of each CONCL .. that a RULE makes on the way is 100 at most

    /** The first TERM makes the CONV FAIL, the second one, a bit larger, is NO ROOM. */
    private static void size(String conv, String fits, String beyond, String... told) {
        refuses(conv + fits, new Scene(conv + ";" + fits, told),
            x -> x.convert(conv.length() + 1 + fits.length()), 5);
        noRoom(conv + ";" + beyond, told);
    }

    private static void sizeOnTheWay() {
        size("all then no", sized(48), sized(49), SIZED);
        size("left all then no", "r" + sized(46), "r" + sized(47), SIZED);
        size("right all then no", "r" + sized(46), "r" + sized(47), SIZED);
        size("beta then no", "(\\a:i.x)" + sized(93), "(\\a:i.x)" + sized(94), SIZED);
        size("eta then no", "\\a:i.m" + sized(45) + "a", "\\a:i.m" + sized(46) + "a", SIZED);
        size("in all then no", "\\b:i." + sized(47), "\\b:i." + sized(48), SIZED);
        size("by w then no", "(\\a:i.x)" + sized(93), "(\\a:i.x)" + sized(94),
            SIZED + ";var y:i;thm w beta(\\a:i.x)y");
        size("right no", "m" + sized(46) + sized(50), "m" + sized(47) + sized(49), SIZED);
        size("once no", "m" + sized(8) + sized(8), "m" + sized(47) + " x", SIZED);
        String told = SIZED + ";var y:i;thm a assume" + sized(48) + "=x";
        String b = sized(48);
        refuses("trans", new Scene("by a then by b then no;" + b, told, "thm b assume x=" + sized(49)),
            x -> x.convert(23 + b.length()), 5);
        noRoom("by a then by b then no;" + b, told, "thm b assume x=" + sized(50));
        String at = "try(all then no);" + sized(48);
        answers(at, new Scene(at, SIZED), x -> x.convert(at.length()), 0);
        noRoom("try(all then no);" + sized(49), SIZED);
    }

    // ---- HYPS are 8

    private static final String VARS =
        "var a:i;var b:i;var c:i;var d:i;var e:i;var f:i;var g:i;var h:i;var j:i;var k:i";
    private static final String CHAIN = "thm ta assume a=b;thm tb assume b=c;thm tc assume c=d;"
        + "thm td assume d=e;thm te assume e=f;thm tf assume f=g;thm tg assume g=h;thm th assume h=j;"
        + "thm ti assume j=k;thm pa assume a=a";
    private static final String EIGHT = "by ta then by tb then by tc then by td then by te then by tf then "
        + "by tg then by th";

    private static void hypsOnTheWay() {
        String at = EIGHT + ";a";
        TenRules x = answers(at, new Scene(at, VARS, CHAIN), y -> y.convert(at.length()), 10);
        due("eight", x.theorem(10, 0), 8);
        noRoom(EIGHT + " then by ti;a", VARS, CHAIN);
        noRoom("(" + EIGHT + " then by ti then no)else all;a", VARS, CHAIN);
        String vain = "(" + EIGHT + " then no)else all;a";
        due("in vain", answers(vain, new Scene(vain, VARS, CHAIN), y -> y.convert(vain.length()), 10)
            .theorem(10, 0), 0);
        String rep = "rep(by ta else by tb else by tc else by td else by te else by tf else by tg else by th"
            + " else no);a";
        due("rep", answers(rep, new Scene(rep, VARS, CHAIN), y -> y.convert(rep.length()), 10)
            .theorem(10, 0), 8);
        noRoom(rep.replace("else no", "else by ti"), VARS, CHAIN);
        String seven = "right(" + EIGHT.substring(0, EIGHT.length() - 11) + ")";
        due("rewrite: seven and one", answers(seven, new Scene(seven, VARS, CHAIN),
            y -> y.rewrite(9, seven.length()), 10).theorem(10, 0), 8);
        String eight = "right(" + EIGHT + ")";
        refuses("rewrite: eight and one", new Scene(eight, VARS, CHAIN),
            y -> y.rewrite(9, eight.length()), 3);
        due("its own among them", answers(eight, new Scene(eight, VARS, CHAIN + ";thm aa refl a"),
            y -> y.rewrite(10, eight.length()), 11).theorem(11, 0), 8);
    }

    // ---- NORMAL: rep once (beta else eta else def); unfold: rep once def

    private static void likeTheirConvs() {
        String[] terms = {"x", "d x", "e", "\\a:i.f a", "(\\a:i.\\b:i.m a b)x y", "m(d x)((\\a:i.e a)y)",
            "\\a:i.\\b:i.m(d a)b", "\\a:i.x=a"};
        for (String term : terms) {
            TenRules x = start();
            TenRules y = start();
            int t = x.normal(lay(x, term));
            int n = y.convert(lay(y, "rep once(beta else eta else def);" + term));
            due("normal " + term, state(x), state(y));
            due("normal " + term, t, n);
        }
        TenRules x = told(START, "thm a assume u(d(e x))");
        TenRules y = told(START, "thm a assume u(d(e x))");
        due("unfold", x.unfold(3), y.rewrite(3, lay(y, "rep once def")));
        due("unfold", state(x), state(y));
        due("unfold", concl(x, 4), "(u (r (r x)))");
    }
}
