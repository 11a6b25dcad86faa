import java.util.Arrays;

/**
 * 'Terms' II and III, sentence by sentence: LEVELS and how they are written, the order of HYPS, what is
 * bound, VARS in HYPS; and that no call sees what calls ahead of it made on their way.
 */
public final class TermBoundsTest extends Checks {
    private static final String START = "var x:i;var p:o;var q:o;const c:i;const f:i>i;const g:i>i>o;const h:o>o";

    public static void main(String[] args) {
        sizes();
        levels();
        innermost();
        highLevels();
        orderOfNames();
        orderOfKinds();
        orderOfTypes();
        orderOfLevels();
        orderOfHighLevels();
        likeOnesOnce();
        varsInHyps();
        boundNow();
        valuesUnderLambdas();
        variableInF();
        ownVars();
        hypsOfOthersOnly();
        fourHundredTokens();
        typesBehindOthers();
        manyLargeTheorems();
        firstOfAll();
        end();
    }

    private static void written(String text, String want, String... told) {
        TenRules x = told(told);
        due(text, x.write(lay(x, text)), want.length());
        due(text, last(x), want);
    }

    // ---- SIZE: VARS, CONSTS, =, LEVELS 1; COMB 1 and both; ABS 1 and the body

    private static void sizes() {
        String[] texts = {"x", "c", "f x", "g x", "g x c", "x=c", "\\a:i.a", "\\a:i.x", "\\a:i.\\b:o.b",
            "(\\a:i.f a)x", "\\a:i.a=a", "f(f(f x))", "(x=x)=(c=c)"};
        int[] sizes = {1, 1, 3, 3, 5, 5, 2, 2, 3, 6, 6, 7, 13};
        for (int i = 0; i < texts.length; i++) {
            int n = texts[i].length();
            answers("SIZE of " + texts[i], new Scene(texts[i], START), y -> y.term(n, 0), sizes[i]);
        }
    }

    // ---- LEVELS: the outermost of all round it 0

    private static void levels() {
        written("\\a:i.a", "\\i.0", START);
        written("\\a:i.\\b:i.a", "\\i.\\i.0", START);
        written("\\a:i.\\b:i.b", "\\i.\\i.1", START);
        written("(\\a:i.a)((\\b:i.b)x)", "(\\i.0 (\\i.0 x))", START);
        written("\\a:i.(\\b:i.b)a", "\\i.(\\i.1 0)", START);
        written("(\\a:i.a)=(\\b:i.b)", "((= \\i.0) \\i.0)", START);
        written("\\a:i.a=a", "\\i.((= 0) 0)", START);
        String names = "abcdefghjkl";
        StringBuilder text = new StringBuilder();
        for (char name : names.toCharArray()) {
            text.append('\\').append(name).append(":i.");
        }
        for (int k = 0; k < names.length(); k++) {
            written(text + "" + names.charAt(k), "\\i.".repeat(11) + k, START);
        }
    }

    // ---- NAME (of a variable bound here, the innermost; else of a VAR, a CONST)

    private static void innermost() {
        written("\\x:i.x", "\\i.0", START);
        written("\\x:i.\\x:i.x", "\\i.\\i.1", START);
        written("\\x:i.(\\x:o.x)", "\\i.\\o.1", START);
        written("\\x:o.(\\x:i.f x)=f", "\\o.((= \\i.(f 1)) f)", START);
        written("\\c:o.h c", "\\o.(h 0)", START);
        written("(\\x:o.x)=\\a:o.x=x", "((= \\o.0) \\o.((= x) x))", START);
        written("g((\\x:i.x)x)x", "((g (\\i.0 x)) x)", START);
        answers("bound no more", new Scene("g((\\x:i.x)c)x", START), y -> y.term(13, 2), 1);
        answers("bound", new Scene("g((\\x:i.x)c)c", START), y -> y.term(13, 2), 0);
    }

    /** 24, and then 32, \ round one place: by inst, which puts twelve under twelve. */
    private static void highLevels() {
        TenRules x = told("var v:i;const j:(i>i)>i;const w:(i>i)>o",
            "thm a refl " + chain("w", 4, "v"));
        due("eight, twice", x.inst(0, 0, lay(x, chain("j", 5, "v"))), 1);
        for (int k = 0; k < 3; k++) {
            due("and leaves", x.inst(1, 0, lay(x, chain("j", 3, leaf(k)))), 2 + k);
            x.writeSide(2 + k, 0);
            due("12 \\, LEVEL " + (9 + k), tail(x, 6 * 12), "" + (9 + k));
        }
        x = told("var v:i;const j:(i>i)>i;const w:(i>i)>o", "thm a assume " + chain("w", 12, "v"));
        due("24", x.inst(0, 0, lay(x, chain("j", 12, "v"))), 1);
        for (int k = 0; k < 8; k++) {
            due("32", x.inst(1, 0, lay(x, chain("j", 8, leaf(k)))), 2 + k);
            due("SIZE", x.theorem(2 + k, 1), 97);
            x.writeOf(2 + k, NONE);
            due("LEVEL " + (24 + k), tail(x, 6 * 32), "" + (24 + k));
        }
    }

    /** So many \ within one another, without a bracket, and a leaf. */
    private static String chain(String head, int count, String leaf) {
        StringBuilder s = new StringBuilder();
        for (int k = 0; k < count; k++) {
            s.append(k == 0 ? head : "j").append('\\').append(leaf(k)).append(":i.");
        }
        return s + leaf;
    }

    private static String leaf(int k) {
        return "b" + (char) ('a' + k);
    }

    /** The digits from a place on. */
    private static String tail(TenRules x, int from) {
        StringBuilder s = new StringBuilder();
        for (int k = from; k < from + 3 && x.octet(k) >= '0' && x.octet(k) <= '9'; k++) {
            s.append((char) x.octet(k));
        }
        return s.toString();
    }

    // ---- HYPS .. by WRITTEN: byte by byte the lesser first, the beginning of another one ahead of it

    /** A THEOREM q with these HYPS, seven at most, and q: each first comes as q by itself and q. */
    private static int joined(TenRules x, int q, int... weak) {
        int so = weak[0];
        for (int i = 1; i < weak.length; i++) {
            so = i % 2 == 1 ? x.deduct(so, weak[i]) : x.eqmp(so, weak[i]);
        }
        return weak.length % 2 == 1 ? so : x.eqmp(so, q);
    }

    /** q by the HYP and q. */
    private static int weakened(TenRules x, int q, int hyp) {
        return x.eqmp(x.deduct(hyp, q), hyp);
    }

    /** The truths, and q, are the HYPS of one THEOREM, and told in their order, however they came. */
    private static void ordered(String told, String... truths) {
        for (int turn = 0; turn < 3; turn++) {
            TenRules x = told(told);
            int q = x.assume(lay(x, "q"));
            int[] weak = new int[truths.length];
            String[] want = new String[truths.length + 1];
            for (int i = 0; i < truths.length; i++) {
                String text = truths[turn == 1 ? truths.length - 1 - i : (i + 2 * turn) % truths.length];
                int hyp = x.assume(lay(x, text));
                weak[i] = weakened(x, q, hyp);
            }
            int all = joined(x, q, weak);
            due("all HYPS", x.theorem(all, 0), truths.length + 1);
            TenRules y = told(told);
            for (int i = 0; i < truths.length; i++) {
                y.write(lay(y, truths[i]));
                want[i] = last(y);
            }
            want[truths.length] = "q";
            Arrays.sort(want);
            for (int i = 0; i < want.length; i++) {
                due("HYP " + i, hyp(x, all, i), want[i]);
            }
        }
    }

    private static void orderOfNames() {
        ordered("var b:o;var ba:o;const q:o;const bab:o;var c:o", "b", "ba", "bab", "c");
        ordered("var z:o;var zz:o;const q:o;const a:o;var aaaaaa:o;var aaaaab:o;const y:o", "z", "zz", "a",
            "aaaaaa", "aaaaab", "y");
        ordered("var b:o;var ba:o;const q:o;const h:o>o;const ha:o>o", "h b", "h ba", "ha b", "ha ba",
            "h(h b)", "b", "ha(h ba)");
        ordered("var b:o;var r:o;const q:o;const t:o>o>o", "t b r", "t r b", "t b b", "b", "t(t b b)b");
    }

    private static void orderOfKinds() {
        ordered(START, "(\\a:o.a)p", "h p", "h(h p)", "p", "x=x", "g x x", "h((\\a:o.a)p)");
        ordered(START + ";const k:(o>o)>o", "k h", "k\\a:o.a", "k\\a:o.h a", "k\\a:o.p", "k\\a:o.(\\b:o.a)p");
        ordered(START + ";const k:(o>o>o)>o", "k\\a:o.h", "k\\a:o.\\b:o.a", "k\\a:o.\\b:o.b",
            "k\\a:o.\\b:o.p", "k\\a:o.\\b:o.h a", "k\\a:o.\\b:o.a=b", "k\\a:o.\\b:o.h b");
    }

    private static void orderOfTypes() {
        ordered("var p:o;const q:o", "(\\a:i.p)=\\a:i.p", "(\\a:o.p)=\\a:o.p", "(\\a:i>i.p)=\\a:i>i.p",
            "(\\a:i>o.p)=\\a:i>o.p", "(\\a:o>i.p)=\\a:o>i.p", "(\\a:(i>i)>i.p)=\\a:(i>i)>i.p",
            "(\\a:i>i>i.p)=\\a:i>i>i.p");
        ordered("var p:o;const q:o", "(\\a:o>o.p)=\\a:o>o.p", "(\\a:(o>o)>o.p)=\\a:(o>o)>o.p",
            "(\\a:(i>o)>o.p)=\\a:(i>o)>o.p", "(\\a:o>o>o.p)=\\a:o>o>o.p", "(\\a:o>i>o.p)=\\a:o>i>o.p",
            "(\\a:i.\\b:o.p)=\\a:i.\\b:o.p", "(\\a:i.\\b:i.p)=\\a:i.\\b:i.p");
    }

    private static void orderOfLevels() {
        String told = "var v:o;const q:o;const j:(o>o)>o";
        String[] all = new String[12];
        for (int k = 0; k < 12; k++) {
            all[k] = chain("j", 12, leaf(k)).replace(":i.", ":o.");
        }
        levelsAre(told, all, 0, 1, 2, 9, 10, 11);
        levelsAre(told, all, 3, 4, 5, 6, 7, 8, 9);
        levelsAre(told, all, 11, 1, 10, 2);
    }

    /** HYPS that are unlike in a LEVEL alone: of each the leaf is read. */
    private static void levelsAre(String told, String[] truths, int... levels) {
        TenRules x = told(told);
        int q = x.assume(lay(x, "q"));
        int[] weak = new int[levels.length];
        for (int i = 0; i < levels.length; i++) {
            int hyp = x.assume(lay(x, truths[levels[i]]));
            weak[i] = weakened(x, q, hyp);
        }
        leaves(x, joined(x, q, weak), 6 * 12, levels, 0);
    }

    private static void leaves(TenRules x, int all, int from, int[] levels, int more) {
        String[] want = new String[levels.length];
        for (int i = 0; i < levels.length; i++) {
            want[i] = "" + (levels[i] + more);
        }
        Arrays.sort(want);
        due("HYPS", x.theorem(all, 0), levels.length + 1);
        for (int i = 0; i < want.length; i++) {
            x.writeOf(all, i);
            due("LEVEL " + i, tail(x, from), want[i]);
        }
    }

    /** So many \, by inst, round twelve more, of which one is the leaf's. */
    private static void orderOfHighLevels() {
        for (int around = 1; around <= 12; around++) {
            for (int[] levels : new int[][] {{0, 3, 6, 7, 8, 9, 11}, {1, 2, 4, 5, 7, 10}}) {
                TenRules x = told("var v:i;const q:o;const j:(i>i)>i;const w:(i>i)>o;thm qq assume q",
                    "thm h assume " + chain("w", around, "v"));
                int e = weakened(x, 0, 1);
                int[] weak = new int[levels.length];
                for (int i = 0; i < levels.length; i++) {
                    weak[i] = x.inst(e, 0, lay(x, chain("j", 12, leaf(levels[i]))));
                }
                leaves(x, joined(x, 0, weak), 6 * (around + 12), levels, around);
            }
        }
    }

    // ---- like ones once

    private static void likeOnesOnce() {
        TenRules x = told(START);
        int p = x.assume(lay(x, "p"));
        int q = x.assume(lay(x, "q"));
        int b = x.assume(lay(x, "(\\a:o.a)=h"));
        int d = x.assume(lay(x, "(\\e:o.e)=h"));
        due("like ones", x.theorem(x.deduct(weakened(x, p, b), weakened(x, p, d)), 0), 1);
        due("unlike ones", x.theorem(x.deduct(weakened(x, p, b), weakened(x, p, q)), 0), 2);
        int both = x.deduct(weakened(x, p, x.assume(lay(x, "h q"))), weakened(x, p, x.assume(lay(x, "h p"))));
        due("h p, h q", x.theorem(both, 0), 2);
        due("made alike by inst", x.theorem(x.inst(both, 1, lay(x, "q")), 0), 1);
        due("both stay", x.theorem(x.inst(both, 1, lay(x, "h q")), 0), 2);
        due("in order", hyp(x, x.inst(both, 1, lay(x, "h q")), 0), "(h (h q))");
    }

    // ---- abs: a VAR that is in no HYP

    private static void varsInHyps() {
        Scene scene = new Scene(null, START, "thm a assume x=c;thm b refl x;thm d assume p;thm e assume p=q;"
            + "thm k assume(\\x:i.x)=f");
        refuses("x in its HYP", scene, y -> y.abs(0, 0), 5);
        answers("p isn't", scene, y -> y.abs(1, 0), 5);
        answers("without HYPS", scene, y -> y.abs(0, 1), 5);
        refuses("p in its HYP", scene, y -> y.abs(1, 3), 5);
        refuses("q in its HYP", scene, y -> y.abs(2, 3), 5);
        answers("x isn't", scene, y -> y.abs(0, 3), 5);
        answers("a bound x is none", scene, y -> y.abs(0, 4), 5);
        Scene two = new Scene(null, START, "thm a assume x=c;thm b assume c=c;thm d trans a b");
        refuses("in the second HYP", two, y -> y.abs(0, 2), 5);
        answers("in none of two", two, y -> y.abs(1, 2), 3);
    }

    // ---- \ it . l = \ it . r (bound now)

    private static void boundNow() {
        TenRules x = told(START, "thm a refl g x;thm b refl \\a:i.g a x;thm d refl c");
        due("abs", concl(x, x.abs(0, 0)), "((= \\i.(g 0)) \\i.(g 0))");
        due("under another", concl(x, x.abs(0, 1)), "((= \\i.\\i.((g 1) 0)) \\i.\\i.((g 1) 0))");
        due("none of it", concl(x, x.abs(0, 2)), "((= \\i.c) \\i.c)");
        due("its VARS", x.theorem(3, 4), 0);
    }

    // ---- beta: b with y for its variable; inst: a TERM for each VAR v

    private static void valuesUnderLambdas() {
        TenRules x = told(START, "var k:i>i;thm a refl \\a:i.k(k a);thm b assume g x x;thm e refl \\a:i.g a x");
        due("y under a \\", concl(x, x.beta(lay(x, "(\\a:i>i.\\b:i.a(a b))(\\e:i.f e)"))),
            "((= (\\(i>i).\\i.(0 (0 1)) \\i.(f 0))) \\i.(\\i.(f 1) (\\i.(f 1) 0)))");
        due("its variable isn't there", concl(x, x.beta(lay(x, "(\\a:i.c)x"))), "((= (\\i.c x)) c)");
        due("inst under a \\", concl(x, x.inst(0, 3, lay(x, "\\e:i.f e"))),
            "((= \\i.(\\i.(f 1) (\\i.(f 1) 0))) \\i.(\\i.(f 1) (\\i.(f 1) 0)))");
        int t = x.inst(1, 0, lay(x, "f x"));
        due("each x, once", concl(x, t), "((g (f x)) (f x))");
        due("in HYPS, too", hyp(x, t, 0), "((g (f x)) (f x))");
        due("bound ones stay", concl(x, x.inst(2, 0, lay(x, "c"))), "((= \\i.((g 0) c)) \\i.((g 0) c))");
    }

    // ---- eta: that not being in f

    private static void variableInF() {
        String[] good = {"\\a:i.f a", "\\a:i.g x a", "\\a:i.(\\b:i.b)a", "\\a:i.(\\a:i.a)a", "\\a:o.h a",
            "\\a:i.x=a"};
        String[] rights = {"f", "(g x)", "\\i.0", "\\i.0", "h", "(= x)"};
        for (int i = 0; i < good.length; i++) {
            String text = good[i];
            TenRules x = answers(text, new Scene(text, START), y -> y.eta(text.length()), 0);
            x.writeSide(0, 1);
            due(text, last(x), rights[i]);
        }
        for (String text : new String[] {"\\a:i.g a a", "\\a:i.(\\b:i.g a b)a", "\\a:i.a=a", "\\a:i.f x",
            "\\a:i.f(f a)", "\\a:i.\\b:i.g a b"}) {
            refuses(text, new Scene(text, START), y -> y.eta(text.length()), 5);
        }
    }

    // ---- in: a VAR of its own that is nowhere else

    private static void ownVars() {
        String vars = "var a:i;var b:i;var c:i;var d:i;var e:i;var f:i;var g:i;var h:i;var j:i;var k:i";
        String more = "const m:i>i>i;const n:i>i;thm t refl m k j;thm u refl m a b";
        String[][] texts = {{"in in all", "\\x:i.\\y:i.m k x", "\\i.\\i.((m k) 0)"},
            {"in in in all", "\\x:i.\\y:i.\\z:i.m j(m k y)", "\\i.\\i.\\i.((m j) ((m k) 1))"},
            {"in in beta", "\\x:i.\\y:i.(\\z:i.m z k)y", "\\i.\\i.((m 1) k)"},
            {"in by t", "\\x:i.m x j", "\\i.((m 0) j)"}, {"in by u", "\\x:i.m x b", "\\i.((m 0) b)"},
            {"in in by u", "\\x:i.\\y:i.m x y", "\\i.\\i.((m 0) 1)"},
            {"in in by u", "\\x:i.\\y:i.m(n y)(n x)", "\\i.\\i.((m (n 1)) (n 0))"},
            {"in eta", "\\x:i.\\y:i.m k y", "\\i.(m k)"}, {"in in in all", "\\x:i.\\y:i.\\z:i.m a(m b k)",
            "\\i.\\i.\\i.((m a) ((m b) k))"}};
        for (String[] t : texts) {
            String text = t[0] + ";" + t[1];
            TenRules x = answers(text, new Scene(text, vars, more), y -> y.convert(text.length()), 2);
            x.writeSide(2, 1);
            due(text, last(x), t[2]);
        }
        String deep = "in ".repeat(11) + "all;" + "\\x:i.".repeat(11) + "m k(m j x)";
        TenRules x = answers(deep, new Scene(deep, vars, more), y -> y.convert(deep.length()), 2);
        x.writeSide(2, 1);
        due(deep, last(x), "\\i.".repeat(11) + "((m k) ((m j) 10))");
        String wide = "rep once(beta else eta);\\x:i.m((\\y:i.y)x)((\\y:i.m y k)((\\z:i.z)x))";
        x = answers(wide, new Scene(wide, vars, more), y -> y.convert(wide.length()), 2);
        x.writeSide(2, 1);
        due(wide, last(x), "\\i.((m 0) ((m 0) k))");
    }

    // ---- a THEOREM has no HYPS but its own

    private static void hypsOfOthersOnly() {
        TenRules x = told(START);
        for (int i = 0; i < 6; i++) {
            x.assume(lay(x, "p"));
            int t = i == 0 ? x.refl(lay(x, "x")) : i == 1 ? x.beta(lay(x, "(\\a:i.a)x"))
                : i == 2 ? x.eta(lay(x, "\\a:i.f a")) : i == 3 ? x.convert(lay(x, "all;x"))
                : i == 4 ? x.normal(lay(x, "(\\a:i.a)x")) : x.decide(lay(x, "x=x"));
            due("no HYPS " + i, x.theorem(t, 0), 0);
        }
        x = told(START, "thm a assume p;thm b beta(\\a:i.a)x;thm d assume p;thm e eta \\a:i.f a;"
            + "thm j assume p;thm k refl x;def m=c");
        for (int t = 0; t < 7; t++) {
            due("HYPS of " + t, x.theorem(t, 0), t % 2 == 0 && t < 6 ? 1 : 0);
        }
        x = told(START + ";thm a assume x=f x");
        int t = x.convert(lay(x, "(by a then no)else beta;x"));
        due("nothing", t, NONE);
        t = x.convert(lay(x, "left all else(right by a then no)else beta;(\\a:i.a)x"));
        due("left all", x.theorem(t, 0), 0);
        t = x.convert(lay(x, "(right by a then no)else beta;(\\a:i.a)x"));
        due("beta behind a HYP in vain", x.theorem(t, 0), 0);
        t = x.convert(lay(x, "(right by a then no)else all;f x"));
        due("all behind a HYP in vain", x.theorem(t, 0), 0);
        t = x.convert(lay(x, "right by a;f x"));
        due("a HYP", x.theorem(t, 0), 1);
    }

    // ---- a text of 400 TOKENS

    private static void fourHundredTokens() {
        StringBuilder s = new StringBuilder("\\a:i.k");
        for (int i = 0; i < 12; i++) {
            s.append("(".repeat(11)).append('x').append(")".repeat(11));
        }
        s.append("=k");
        for (int i = 0; i < 12; i++) {
            int around = i < 4 ? 5 : 4;
            s.append("(".repeat(around)).append('x').append(")".repeat(around));
        }
        String text = s.toString();
        due("bytes", text.length(), 400);
        String def = "def k=" + "\\a:i.".repeat(12) + "a";
        answers("400 TOKENS", new Scene(text, "var x:i", def), y -> y.term(400, 0), 54);
        String cut = text.substring(0, 399);
        faulty("399 of them", new Scene(cut, "var x:i", def), y -> y.term(399, 0), FORM, 399);
        String more = cut + "?";
        faulty("one of them wrong", new Scene(more, "var x:i", def), y -> y.term(400, 0), FORM, 399);
    }

    // ---- TYPES that come behind what a RULE made on its way

    private static void typesBehindOthers() {
        TenRules x = told("var x:i;thm a assume x=x;thm b inst a x x;var k:(i>o)>o;thm d trans a b;"
            + "const m:((o>i)>i)>o;thm e abs k b;var n:o>o>o;def z=\\a:o>i.\\b:i>o.a;thm f refl k");
        String[] names = {"k", "m", "n", "z"};
        String[] types = {"((i>o)>o)", "(((o>i)>i)>o)", "(o>(o>o))", "((o>i)>((i>o)>(o>i)))"};
        for (int i = 0; i < names.length; i++) {
            x.writeType(lay(x, names[i]));
            due("TYPE of " + names[i], last(x), types[i]);
        }
        due("VARS", x.theorem(5, 4), 2);
        due("CONSTS", x.theorem(4, 5), 2);
        int t = x.convert(lay(x, "(all then all then no)else left all;(\\a:o>i.\\b:i.k)(\\a:o.x)"));
        due("VARS behind what was in vain", x.theorem(t, 4), 3);
        due("CONSTS behind what was in vain", x.theorem(x.convert(lay(x, "(in all then no)else all;\\a:i.m")),
            5), 1);
    }

    // ---- sixty THEOREMS, each near the bound of its SIZE, and no two alike

    private static void manyLargeTheorems() {
        TenRules x = told("var x:i;var y:i;const m:i>i>i;const r:i>i");
        for (int t = 0; t < 60; t++) {
            due("refl", x.refl(lay(x, unlike(t))), t);
        }
        for (int t = 0; t < 60; t += 7) {
            due("SIZE", x.theorem(t, 1), 97);
            due("like itself", x.same(t, t), 1);
            due("unlike the next", x.same(t, t < 59 ? t + 1 : 0), 0);
            due("bits", x.theorem(t, 4) * 8 + x.theorem(t, 5), t == 0 ? 8 + 3 : t == 63 ? 16 + 3 : 24 + 3);
        }
        due("the first such", x.better(59), 59);
        x.writeSide(59, 1);
        String last = last(x);
        x.write(lay(x, unlike(59)));
        due("WRITTEN", last, last(x));
    }

    /** SIZE 47; by the bits of the number x or y at six places. */
    private static String unlike(int number) {
        StringBuilder s = new StringBuilder("m(r(r x))");
        for (int bit = 0; bit < 6; bit++) {
            s.append("(m(r ").append((number >> bit & 1) == 0 ? 'x' : 'y').append(')');
        }
        return s + "(r x)" + ")".repeat(6);
    }

    // ---- the first of all: CONST 0 by def, THEOREM 0

    private static void firstOfAll() {
        TenRules x = told("def d=\\a:i.a;const c:i");
        due("one by def", x.about(3), 1);
        due("def there", x.term(lay(x, "d c"), 6), 1);
        due("unfolded", x.normal(lay(x, "d c")), 1);
        due("its own is the first", x.better(0), 0);
        x = told("var p:o;var q:o;var r:o;var s:o;thm a assume p;thm b assume q;thm c assume r;"
            + "thm d assume s");
        int byP = weakened(x, 3, 0);
        int byQ = weakened(x, 3, 1);
        int byR = weakened(x, 3, 2);
        due("s alone is better", x.better(byR), 3);
        int pq = x.deduct(byP, byQ);
        int pr = x.deduct(byP, byR);
        due("s=s by p, r", hyp(x, pr, 0) + hyp(x, pr, 1), "pr");
        due("q isn't among p, r", x.better(pr), pr);
        int pqr = x.deduct(x.eqmp(pq, byR), byP);
        due("three HYPS", x.theorem(pqr, 0), 3);
        due("p, q are among them", x.better(pqr), pq);
        int none = x.refl(lay(x, "s"));
        due("no HYPS at all, but not the first", x.better(pqr), pq);
        due("of none none is better", x.better(none), none);
    }
}
