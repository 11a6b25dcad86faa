/** For each promise what the document says of it: ordinary inputs, edges, wrong inputs. */
public final class PromisesTest extends Checks {
    private static final String START =
        "var x : i;var y : i;var p : o;var f : i > i;const c : i;const g : i > i > o";
    /** Under f in twelve brackets: 25 in SIZE, twelve COMBS, no place for any conversion. */
    private static final String DEEP = "f(f(f(f(f(f(f(f(f(f(f(f x)))))))))))";

    private static TenRules start() {
        return told(START);
    }

    private static void faulty(TenRules x, String theory, int fault, int place) {
        int[] before = {x.about(0), x.about(1), x.about(2), x.about(4)};
        due(theory, x.theory(lay(x, theory)), NONE);
        due(theory + ", trouble", x.trouble(), 4);
        due(theory + ", fault", x.fault(), fault);
        due(theory + ", where", x.where(), place);
        due(theory + ", tape", x.size(), 0);
        int[] after = {x.about(0), x.about(1), x.about(2), x.about(4)};
        for (int i = 0; i < 4; i++) {
            due(theory + ", state", after[i], before[i]);
        }
    }

    public static void main(String[] args) {
        newObject();
        feeding();
        theories();
        freshness();
        formFaults();
        nameFaults();
        typeFaults();
        ruleFaults();
        manyFaults();
        faultOrder();
        tellings();
        theorems();
        sameAndBetter();
        termsOnTheTape();
        writing();
        hypsInOrder();
        rules();
        rulesWithHyps();
        limits();
        sixtyTheorems();
        symmetry();
        conversions();
        convFaults();
        byTheorems();
        counting();
        budget();
        manyFrames();
        rewriting();
        normalForms();
        deciding();
        unfolding();
        names();
        troubles();
        end();
    }

    // ---- promises 1 and 2

    private static void newObject() {
        TenRules x = new TenRules();
        due("NONE", TenRules.NONE, -1);
        for (int what = 0; what < 6; what++) {
            due("new: about " + what, x.about(what), 0);
        }
        for (int rule = 0; rule < 10; rule++) {
            due("new: used " + rule, x.used(rule), 0);
        }
        x = new TenRules();
        due("new: trouble", x.trouble(), 0);
        due("new: fault", x.fault(), 0);
        due("new: where", x.where(), NONE);
        due("new: size", x.size(), 0);
        due("new: octet", x.octet(0), -2);
        due("new: fresh", x.fresh(), 0);
    }

    private static void feeding() {
        TenRules x = new TenRules();
        for (int i = 1; i <= 20; i++) {
            due("feed " + i, x.feed(0x20202020, 0x20202020, -1, 0, 0x78202020), 20 * i);
        }
        due("feed 21", x.feed(0x20202020, 0, 0, 0, 0), NONE);
        due("size 400", x.size(), 400);
        due("feed is never refused by a number", x.trouble(), 0);
        refused("byte 8 begins no token", x, x.theory(400), 4);
        due("the eighth byte", x.where(), 8);
        due("emptied", x.size(), 0);
        x = told("var x : i");
        x.feed(0x20202020, 0x20202020, 0x20202020, 0x20202020, 0x20202078);
        due("the last byte is the number's lowest", x.write(20), 1);
        due("the last byte", last(x), "x");
    }

    // ---- promise 3

    private static void theories() {
        TenRules x = new TenRules();
        due("theory of vars", x.theory(lay(x, START)), 0);
        due("trouble 0", x.trouble(), 0);
        due("emptied", x.size(), 0);
        due("theory of thms", x.theory(lay(x, "thm a refl x;def d=\\a:i.a;thm b refl d x")), 3);
        due("a def's maker", x.theorem(1, 2), 10);
        due("a def's theorem", concl(x, 1), "((= d) \\i.0)");
        due("a thm's maker", x.theorem(2, 2), 0);
        due("a line uses what was told ahead of it", concl(x, 2), "((= (d x)) (d x))");
        due("all ten rules", x.theory(lay(x, "thm aa refl f;thm ab assume x=y;thm ac comb aa ab;"
            + "thm ad trans ac ac")), NONE);
        due("trans of unlike ones", x.fault(), 4);
        due("wholly or not at all", x.about(2), 3);
        tell(x, "thm aa refl f;thm ab assume x=y;thm ac comb aa ab;thm ad refl f y;"
            + "thm ae trans ac ad;thm af abs p ab;thm ag beta (\\a:i.a) x;thm ah eta \\a:i.f a;"
            + "thm ai assume p;thm aj deduct ai ai;thm ak eqmp aj ai;thm al inst ak p x=x");
        due("count", x.about(2), 15);
        due("trans", concl(x, 7), "((= (f x)) (f y))");
        due("abs", concl(x, 8), "((= \\o.x) \\o.y)");
        due("beta", concl(x, 9), "((= (\\i.0 x)) x)");
        due("eta", concl(x, 10), "((= \\i.(f 0)) f)");
        due("deduct", concl(x, 12), "((= p) p)");
        due("deduct's hyps", x.theorem(12, 0), 0);
        due("eqmp", concl(x, 13), "p");
        due("inst", concl(x, 14), "((= x) x)");
        due("inst's hyp", hyp(x, 14, 0), "((= x) x)");
        for (int i = 0; i < 10; i++) {
            int[] makers = {0, 5, 2, 0, 1, 3, 4, 9, 5, 7};
            due("maker of " + (3 + i), x.theorem(3 + i, 2), makers[i]);
        }
        lay(x, "var z : i");
        refused("n below 0", x, x.theory(-1), 2);
        refused("n above the tape", x, x.theory(21), 2);
        due("the tape stays", x.size(), 20);
        due("blanks behind", x.theory(20), 15);
        due("z is told", x.about(0), 5);
        due("blanks aside", x.theory(lay(x, "  var   w:i>  i ;const v:( i)>o  ")), 15);
        due("w's type", x.writeType(lay(x, "w")), 5);
        due("v's type", x.writeType(lay(x, "v")), 5);
        due("written", last(x), "(i>o)");
    }

    // ---- promise 4

    private static void freshness() {
        TenRules x = start();
        tell(x, "thm a refl x;def d=\\a:i.a");
        x.write(lay(x, "f x"));
        lay(x, "x");
        refused("a number", x, x.refl(21), 2);
        due("fresh", x.fresh(), 2);
        due("trouble stays", x.trouble(), 2);
        due("the tape stays", x.size(), 20);
        for (int what = 0; what < 5; what++) {
            due("fresh: about " + what, x.about(what), 0);
        }
        due("fresh: used", x.used(0), 0);
        due("what was written stays", x.about(5), 5);
        due("what was written", last(x), "(f x)");
        due("x is gone", x.refl(1), NONE);
        due("x is gone, fault", x.fault(), 2);
        due("fresh again", x.fresh(), 0);
        due("the fault stays", x.fault(), 2);
        due("its place, too", x.where(), 0);
        due("names are free again", x.theory(lay(x, "const x:o;thm a refl x")), 1);
        due("a const now", x.theorem(0, 5), 1);
    }

    // ---- promises 3, 5, 6: faults

    private static void formFaults() {
        TenRules x = start();
        faulty(x, "", 1, 0);
        faulty(x, "   ", 1, 3);
        faulty(x, "vars z:i", 1, 0);
        faulty(x, "var z:i;", 1, 8);
        faulty(x, "var z:i;;", 1, 8);
        faulty(x, "var z;i", 1, 5);
        faulty(x, "var z:j", 1, 6);
        faulty(x, "var z:io", 1, 6);
        faulty(x, "var z:i>", 1, 8);
        faulty(x, "var z:(i", 1, 8);
        faulty(x, "var z:()", 1, 7);
        faulty(x, "var z:i)", 1, 7);
        faulty(x, "var z:i o", 1, 8);
        faulty(x, "var eta:i", 1, 4);
        faulty(x, "var once:i", 1, 4);
        faulty(x, "var abcdefg:i", 1, 4);
        faulty(x, "var Z:i", 1, 4);
        faulty(x, "var z0:i", 1, 5);
        faulty(x, "var z:i\n", 1, 7);
        faulty(x, "var z:i,", 1, 7);
        for (char sign = 0; sign < 256; sign++) {
            boolean begins = sign == ' ' || ";:=>.()\\".indexOf(sign) >= 0 || sign >= 'a' && sign <= 'z';
            if (!begins) {
                faulty(x, "var z:i " + sign, 1, 8);
                faulty(x, "var z:i" + sign + ";", 1, 7);
                faulty(x, "thm a refl x" + sign, 1, 12);
                faulty(x, sign + "var z:i", 1, 0);
            }
        }
        faulty(x, "thm a q x", 1, 6);
        faulty(x, "thm a var x", 1, 6);
        faulty(x, "thm a refl", 1, 10);
        faulty(x, "thm a refl then", 1, 11);
        faulty(x, "thm a refl x then", 1, 13);
        faulty(x, "thm a refl )", 1, 11);
        faulty(x, "thm a refl (x", 1, 13);
        faulty(x, "thm a refl x)", 1, 12);
        faulty(x, "thm a refl ()", 1, 12);
        faulty(x, "thm a refl = x", 1, 11);
        faulty(x, "thm a refl x =", 1, 14);
        faulty(x, "thm a refl x = y = x", 1, 17);
        faulty(x, "thm a refl \\ in:i.x", 1, 13);
        faulty(x, "thm a refl \\a.x", 1, 13);
        faulty(x, "thm a refl \\a:i x", 1, 16);
        faulty(x, "thm a refl \\a:i.", 1, 16);
        faulty(x, "thm a trans", 1, 11);
        faulty(x, "thm a trans (a)", 1, 12);
        faulty(x, "def d:i", 1, 5);
        faulty(x, "def d=", 1, 6);
    }

    private static void nameFaults() {
        TenRules x = start();
        tell(x, "thm t refl x;def d=c");
        faulty(x, "var x:i", 2, 4);
        faulty(x, "const x:o", 2, 6);
        faulty(x, "var c:i", 2, 4);
        faulty(x, "var d:i", 2, 4);
        faulty(x, "var t:i", 2, 4);
        faulty(x, "thm d refl x", 2, 4);
        faulty(x, "def t=c", 2, 4);
        faulty(x, "var z:i;thm z refl x", 2, 12);
        faulty(x, "thm a refl q", 2, 11);
        faulty(x, "thm a refl t", 2, 11);
        faulty(x, "thm a refl a", 2, 11);
        faulty(x, "def k=k", 2, 6);
        faulty(x, "thm a trans t x", 2, 14);
        faulty(x, "thm a trans c t", 2, 12);
        faulty(x, "thm a abs c t", 2, 10);
        faulty(x, "thm a abs x x", 2, 12);
        faulty(x, "thm a inst t c x", 2, 13);
        faulty(x, "thm a inst x x x", 2, 11);
        faulty(x, "thm a refl \\b:i.b=e", 2, 18);
        faulty(x, "thm a refl (\\b:i.b) b", 2, 20);
        due("a bound name may be told, too", x.write(lay(x, "\\x:o.\\t:i.\\x:i.g x t")), 18);
        due("the innermost", last(x), "\\o.\\i.\\i.((g 2) 1)");
    }

    private static void typeFaults() {
        TenRules x = start();
        faulty(x, "thm a refl x y", 3, 13);
        faulty(x, "thm a refl f p", 3, 13);
        faulty(x, "thm a refl f (g x y)", 3, 13);
        faulty(x, "thm a refl f x y", 3, 15);
        faulty(x, "thm a refl x = p", 3, 15);
        faulty(x, "thm a refl x = g x", 3, 15);
        faulty(x, "thm a refl f = f y", 3, 15);
        faulty(x, "thm a refl f (x = p)", 3, 18);
        faulty(x, "thm a refl f \\a:i.a", 3, 13);
        faulty(x, "thm a assume f x", 3, 13);
        faulty(x, "thm a assume \\a:o.a", 3, 13);
        faulty(x, "def d=\\a:i.g a x", 3, 6);
        faulty(x, "def d=f", 3, 6);
        due("closed by its lambdas", x.theory(lay(x, "def d=\\x:i.g x x")), 1);
    }

    private static void ruleFaults() {
        TenRules x = start();
        tell(x, "thm t refl x;thm h assume x=y;thm q assume p");
        faulty(x, "thm a beta f x", 4, 6);
        faulty(x, "thm a eta f", 4, 6);
        faulty(x, "thm a eta \\a:i.a", 4, 6);
        faulty(x, "thm a eta \\a:i.g a a", 4, 6);
        faulty(x, "thm a trans h h", 4, 6);
        faulty(x, "thm a trans q q", 4, 6);
        faulty(x, "thm a comb t t", 4, 6);
        faulty(x, "thm a comb q t", 4, 6);
        faulty(x, "thm a abs x h", 4, 6);
        faulty(x, "thm a abs x q", 4, 6);
        faulty(x, "thm a eqmp t q", 4, 6);
        faulty(x, "thm a eqmp q q", 4, 6);
        faulty(x, "thm a inst t x p", 4, 6);
        faulty(x, "thm  a  inst t x p ; var q:i", 4, 8);
    }

    private static void manyFaults() {
        TenRules x = start();
        String open = "(".repeat(12);
        String close = ")".repeat(12);
        faulty(x, "var z:" + open + "(i)" + close, 5, 18);
        faulty(x, "thm a refl " + open + "(x)" + close, 5, 23);
        faulty(x, "thm a refl " + "\\a:i.".repeat(12) + "\\a:i.a", 5, 71);
        faulty(x, "thm a refl " + "\\a:i.".repeat(6) + "((((((\\a:i.a))))))", 5, 47);
        faulty(x, "thm a refl " + "\\a:i.".repeat(11) + "\\a:((i)).a", 5, 69);
        due("twelve of them", x.theory(lay(x, "thm ok refl " + "\\a:i.".repeat(11) + "\\a:i.a")), 1);
        due("twelve brackets", x.theory(lay(x, "thm o refl " + open + "x" + close)), 2);
        due("one beside another", x.write(lay(x, "g" + "(x)".repeat(2))), 9);
        due("beside a lambda", x.write(lay(x, "(\\a:i.a)=(\\b:i.b)")), 15);
        due("eight letters", x.theory(lay(x, "var z:i>i>(i>i)>i>i>i>i")), 2);
        faulty(x, "var w:i>i>(i>i)>i>i>i>i>i", 5, 6);
        faulty(x, "const w: (((i>i)>i)>i)>i>i>i>i>i", 5, 9);
        faulty(x, "thm a refl \\a:o>o>o>o>o>o>o>o>o.a", 5, 14);
        faulty(x, "thm a refl \\a:o>o>o>o>o>o>o>o>o=", 5, 14);
        x = start();
        tell(x, "var a:i;var b:i;var d:i;var e:i;var h:i;var j:i");
        faulty(x, "var k:i", 5, 0);
        faulty(x, " var", 5, 1);
        tell(x, "const ca:i;const cb:i;const cc:i;const cd:i;const ce:i;const cf:i;def ch=ca");
        faulty(x, "const ci:i;def cj=ca", 5, 11);
        tell(x, "const ci:i");
        due("ten consts", x.about(1), 10);
        due("one by def", x.about(3), 1);
        faulty(x, "def cj=ca", 5, 0);
        faulty(x, "thm u refl ca;const cj:i", 5, 14);
        sizes();
    }

    private static void sizes() {
        // A full tree of depth k, m applied to two of depth k - 1, has a SIZE of 4 * 2^k - 3.
        TenRules x = told("var x:i;const m:i>i>i;const r:i>i");
        String one = "(m x x)";
        String two = "(m " + one + one + ")";
        String three = "(m " + two + two + ")";
        due("a full tree", x.term(lay(x, "m " + three + three), 0), 61);
        String most = "m(m " + three + "(m " + one + "(r(r x))))(m " + three + "(m " + one
            + "(r(r(r(r(r x)))))))";
        due("3 + 45 + 51", x.term(lay(x, most), 0), 99);
        due("SIZE 100", x.term(lay(x, "\\a:i." + most), 0), 100);
        refused("SIZE 101", x, x.term(lay(x, "\\a:i.\\b:i." + most), 0), 4);
        due("SIZE 101, fault", x.fault() * 1000 + x.where(), 5000);
        refused("SIZE 101 behind blanks", x, x.term(lay(x, "  \\a:i.\\b:i." + most), 0), 4);
        due("at the first token", x.fault() * 1000 + x.where(), 5002);
        faulty(x, "thm a refl \\a:i.\\b:i." + most, 5, 11);
        faulty(x, "thm a refl \\a:i.\\b:i." + most + " ?", 5, 11);
        faulty(x, "thm a refl \\a:i.\\b:i." + most + " q", 2, 22 + most.length());
        faulty(x, "def d= \\x:i.\\b:i." + most, 5, 7);
        faulty(x, "def d= \\a:i.\\b:i." + most, 3, 7);
        faulty(x, "thm a refl \\a:i." + most, 5, 6);
        faulty(x, "thm a beta " + most, 4, 6);
        faulty(x, "thm a assume \\a:i.\\b:i." + most, 3, 13);
        refused("what refl makes", x, x.refl(lay(x, most)), 3);
    }

    private static void faultOrder() {
        TenRules x = start();
        faulty(x, "thm a refl q (", 2, 11);
        faulty(x, "thm a refl x q", 2, 13);
        faulty(x, "thm a refl x (q", 2, 14);
        faulty(x, "thm a refl x (y y)", 3, 16);
        faulty(x, "thm a refl x y ?", 3, 13);
        faulty(x, "thm a assume x ?", 3, 13);
        faulty(x, "thm a assume x :", 3, 13);
        faulty(x, "thm a beta x :", 4, 6);
        faulty(x, "thm a beta (x :", 1, 14);
        faulty(x, "var x ?", 2, 4);
        faulty(x, "var z ?;thm a refl q", 1, 6);
        faulty(x, "thm a refl x = p ?", 3, 15);
        faulty(x, "thm a refl x = p = p", 3, 15);
        faulty(x, "def d=x=p", 3, 8);
        faulty(x, "var z:i;thm a refl z;thm b refl x;thm a refl y", 2, 38);
    }

    // ---- promises 7 and 8

    private static void tellings() {
        TenRules x = start();
        tell(x, "thm a refl x;def d=\\a:i.a;thm b assume p");
        int[] want = {4, 3, 3, 1, 2, 0};
        for (int what = 0; what < 6; what++) {
            due("about " + what, x.about(what), want[what]);
        }
        refused("about 6", x, x.about(6), 1);
        due("about 0", x.about(0), 4);
        due("trouble 0 again", x.trouble(), 0);
        refused("about -1", x, x.about(-1), 1);
        due("used 0", x.used(0), 1);
        due("used 5", x.used(5), 1);
        due("used 9", x.used(9), 0);
        refused("used 10", x, x.used(10), 1);
        refused("used -1", x, x.used(-1), 1);
        x.beta(lay(x, "x"));
        x.trans(2, 2);
        due("what is refused isn't counted", x.about(4), 2);
        x.theory(lay(x, "thm e refl x;thm h refl q"));
        due("nor in a theory", x.about(4), 2);
    }

    // ---- promise 9

    private static void theorems() {
        TenRules x = start();
        tell(x, "thm a assume g x c = p;def d=\\a:i.g a;thm b refl f");
        int[][] want = {{1, 9, 5, 1, 5, 3}, {0, 8, 10, 1, 0, 6}, {0, 5, 0, 1, 8, 0}};
        for (int t = 0; t < 3; t++) {
            for (int what = 0; what < 6; what++) {
                due("theorem " + t + " " + what, x.theorem(t, what), want[t][what]);
            }
        }
        refused("no theorem 3", x, x.theorem(3, 0), 1);
        refused("no theorem -1", x, x.theorem(-1, 0), 1);
        refused("no what 6", x, x.theorem(0, 6), 1);
        refused("no what -1", x, x.theorem(0, -1), 1);
        tell(x, "thm e assume g x c;thm h eqmp a e");
        due("its concl", concl(x, 4), "p");
        due("VARS of hyps count", x.theorem(4, 4), 5);
        due("CONSTS of hyps count", x.theorem(4, 5), 3);
    }

    // ---- promises 10 and 11

    private static void sameAndBetter() {
        TenRules x = start();
        tell(x, "thm a assume p;thm b refl p;thm d deduct a a;thm e eqmp d a;"
            + "thm h assume x=y;thm k assume y=x");
        due("like ones", x.same(1, 2), 1);
        due("like ones with a hyp", x.same(0, 3), 1);
        due("unlike", x.same(0, 1), 0);
        due("a mirrored one", x.same(4, 5), 0);
        due("itself", x.same(4, 4), 1);
        refused("same", x, x.same(0, 6), 1);
        refused("same", x, x.same(-1, 0), 1);
        due("better: the first", x.better(2), 1);
        due("better: itself", x.better(1), 1);
        due("better: the first with hyps", x.better(3), 0);
        refused("better", x, x.better(6), 1);
        refused("better", x, x.better(-1), 1);
        tell(x, "thm l refl x;thm m assume x=x;thm n trans m l");
        due("fewer hyps", x.better(8), 6);
        due("more hyps are not", x.better(6), 6);
        due("another's hyps are not", x.same(7, 8), 1);
        x.deduct(7, 4);
        due("another's hyps", x.theorem(x.deduct(4, 7), 0), 2);
        TenRules y = told("var p:o;var q:o;const n:o>o;thm a assume p;thm b assume q;"
            + "thm c assume n p;thm d deduct c b;thm e eqmp d c;thm f deduct a b;thm g eqmp f a");
        due("q by n p, n p = q", y.theorem(4, 0), 2);
        due("q by p, q", y.theorem(6, 0), 2);
        due("the second hyp is another", y.better(6), 1);
        due("q alone is better than both", y.better(4), 1);
        y = told("var p:o;var q:o;const n:o>o;thm a assume p;thm c assume n p;thm b assume q;"
            + "thm d deduct c b;thm e eqmp d c;thm f deduct a b;thm g eqmp f a;"
            + "thm h deduct c g;thm i eqmp h c");
        due("q", concl(y, 8), "q");
        due("the first with q's hyp among them", y.better(8), 2);
        due("lambdas by level", x.theory(lay(x, "thm q refl \\a:i.a;thm r refl \\b:i.b")), 13);
        due("alike", x.same(11, 12), 1);
    }

    // ---- promise 12

    private static void termsOnTheTape() {
        TenRules x = start();
        tell(x, "def d=\\a:i.a");
        String t = "(\\a:i.\\b:i.g (d a) ((\\e:i.e) b)) (d c)";
        int[] want = {16, 3, 0, 7, 0, 2, 2, 0};
        for (int what = 0; what < 8; what++) {
            due("term " + what, x.term(lay(x, t), what), want[what]);
        }
        due("type o", x.term(lay(x, "g x y"), 4), 1);
        due("vars", x.term(lay(x, "g x (f y)"), 2), 11);
        due("a bound one is none", x.term(lay(x, "\\x:i.g x y"), 2), 2);
        due("most lambdas", x.term(lay(x, "(\\a:i.a) = (\\a:i.(\\b:i.\\e:i.e) a x)"), 1), 3);
        due("eta", x.term(lay(x, "\\a:i.f a"), 7), 1);
        due("eta within", x.term(lay(x, "\\b:i.\\a:i.g b a"), 7), 1);
        due("eta not: in f, too", x.term(lay(x, "\\a:i.g a a"), 7), 0);
        due("eta not: another's variable", x.term(lay(x, "\\b:i.\\a:i.f b"), 7), 0);
        due("eta of a lambda", x.term(lay(x, "\\a:i.(\\b:i.b) a"), 7), 1);
        due("beta there", x.term(lay(x, "\\a:i.(\\b:i.b) a"), 5), 1);
        due("eta of =", x.term(lay(x, "\\a:i.x=a"), 7), 1);
        due("def twice", x.term(lay(x, "d (d x)"), 6), 2);
        lay(x, "x");
        refused("what 8", x, x.term(1, 8), 1);
        refused("what -1", x, x.term(-1, -1), 1);
        due("the tape stays", x.size(), 20);
        refused("n", x, x.term(21, 0), 2);
        refused("n", x, x.term(-1, 0), 2);
        due("the tape stays", x.size(), 20);
        due("n bytes alone", x.term(1, 0), 1);
        due("emptied", x.size(), 0);
        refused("fault", x, x.term(lay(x, "x ;"), 0), 4);
        due("fault", x.fault() * 1000 + x.where(), 1002);
        refused("no text", x, x.term(0, 0), 4);
        due("no text", x.fault() * 1000 + x.where(), 1000);
    }

    // ---- promises 13 to 17

    private static void writing() {
        TenRules x = start();
        tell(x, "var abcdef:(i>o)>i;thm a assume g x y = p;thm b refl x;thm d assume p");
        String[][] terms = {{"x", "x"}, {"f x", "(f x)"}, {"abcdef", "abcdef"},
            {"g x (f y)", "((g x) (f y))"}, {"x = y", "((= x) y)"},
            {"\\a:i.\\b:(i>o)>o.b = \\c:i>o.c a", "\\i.\\((i>o)>o).((= 1) \\(i>o).(2 0))"},
            {"\\a:i.g a = g x", "\\i.((= (g 0)) (g x))"},
            {"f ((\\a:i.a) x)", "(f (\\i.0 x))"},
            {"\\a:i.a=a=\\a:i.p", "((= \\i.((= 0) 0)) \\i.p)"}};
        for (String[] t : terms) {
            due("write " + t[0], x.write(lay(x, t[0])), t[1].length());
            due("write " + t[0], last(x), t[1]);
            due("its bytes", x.about(5), t[1].length());
        }
        String[][] types = {{"x", "i"}, {"p", "o"}, {"g", "(i>(i>o))"}, {"g x", "(i>o)"},
            {"abcdef", "((i>o)>i)"}, {"\\a:i>i.\\b:o.a", "((i>i)>(o>(i>i)))"}, {"x=y", "o"}};
        for (String[] t : types) {
            due("type " + t[0], x.writeType(lay(x, t[0])), t[1].length());
            due("type " + t[0], last(x), t[1]);
        }
        x.write(lay(x, "f x"));
        refused("write", x, x.write(1), 2);
        refused("write", x, x.write(lay(x, "f f")), 4);
        refused("writeType", x, x.writeType(-1), 2);
        refused("writeType", x, x.writeType(lay(x, "g x x x")), 4);
        due("its place", x.where(), 6);
        refused("writeOf", x, x.writeOf(0, 1), 1);
        refused("writeOf", x, x.writeOf(0, -2), 1);
        refused("writeOf", x, x.writeOf(3, NONE), 1);
        refused("writeOf", x, x.writeOf(-1, NONE), 1);
        refused("writeOf", x, x.writeOf(1, 0), 1);
        refused("writeSide", x, x.writeSide(0, 2), 1);
        refused("writeSide", x, x.writeSide(0, -1), 1);
        refused("writeSide", x, x.writeSide(3, 0), 1);
        refused("writeSide", x, x.writeSide(2, 0), 5);
        refused("writeSide", x, x.writeSide(2, 2), 1);
        due("what is refused writes nothing", last(x), "(f x)");
        due("octet beyond", x.octet(5), -2);
        due("octet beyond is no trouble", x.trouble(), 0);
        refused("octet", x, x.octet(-1), 1);
        due("octet far", x.octet(Integer.MAX_VALUE), -2);
        due("writeOf", x.writeOf(0, NONE), 17);
        due("concl", last(x), "((= ((g x) y)) p)");
        due("writeOf hyp", x.writeOf(2, 0), 1);
        due("hyp", last(x), "p");
        due("left", x.writeSide(0, 0), 9);
        due("left", last(x), "((g x) y)");
        due("right", x.writeSide(0, 1), 1);
        due("right", last(x), "p");
        longTypes();
    }

    private static void longTypes() {
        TenRules x = told("const a:i>i>i>i>i>i>i>i");
        String lambdas = "\\x:i>i>i>i>i>i>i>i.".repeat(12);
        String before = "a";
        for (int i = 0; i < 9; i++) {
            String name = "" + (char) ('b' + i);
            tell(x, "def " + name + "=" + lambdas + before);
            before = name;
        }
        due("ten consts", x.about(1), 10);
        due("the longest type", x.writeType(lay(x, lambdas + before)), 4 * 968 - 3);
        due("its last byte", x.octet(4 * 968 - 4), ')');
    }

    private static void hypsInOrder() {
        TenRules x = told("var b:o;var ba:o;const h:o>o;const k:(i>o)>o;var r:i>o;const n:o>o>o");
        String[] texts = {"b", "h b", "ba", "h ba", "k r", "k \\x:i.r x", "(\\x:o.x) b",
            "(\\x:o.x)=h"};
        String[] due = {"((= \\o.0) h)", "(\\o.0 b)", "(h b)", "(h ba)", "(k \\i.(r 0))", "(k r)",
            "b", "ba"};
        int all = NONE;
        for (String t : texts) {
            int hyp = x.assume(lay(x, t));
            all = all < 0 ? hyp : weakened(x, all, hyp);
        }
        due("eight hyps", x.theorem(all, 0), 8);
        for (int i = 0; i < 8; i++) {
            due("hyp " + i, hyp(x, all, i), due[i]);
        }
        due("the concl stays", concl(x, all), "b");
        int ninth = x.assume(lay(x, "h (h b)"));
        int before = x.about(2);
        refused("nine hyps", x, x.deduct(ninth, all), 3);
        due("no theorem came", x.about(2), before);
        refused("nine hyps", x, x.deduct(all, ninth), 3);
        due("a hyp that is there", x.deduct(x.assume(lay(x, "h b")), all), before + 1);
        levelsInOrder();
    }

    /** Under eleven lambdas: LEVEL 10 is written behind LEVEL 1 and ahead of LEVEL 2. */
    private static void levelsInOrder() {
        TenRules x = told("var v:o");
        String lambdas = "\\a:o.\\b:o.\\c:o.\\d:o.\\e:o.\\f:o.\\g:o.\\h:o.\\i:o.\\j:o.\\k:o.";
        int all = x.assume(lay(x, "v"));
        for (String bound : new String[] {"c", "k", "j", "b"}) {
            String text = "(" + lambdas + bound + ")=(" + lambdas + "v)";
            all = weakened(x, all, x.assume(lay(x, text)));
        }
        due("five hyps", x.theorem(all, 0), 5);
        int[] order = {1, 10, 2, 9};
        for (int i = 0; i < 4; i++) {
            String outer = "\\o.".repeat(11);
            due("levels " + i, hyp(x, all, i), "((= " + outer + order[i] + ") " + outer + "v)");
        }
    }

    /** The first theorem with the hyps of both: deduct gives a = b, eqmp a back by it and b. */
    private static int weakened(TenRules x, int a, int b) {
        int equal = x.deduct(b, a);
        if (equal < 0) {
            return NONE;
        }
        return x.eqmp(equal, b);
    }

    // ---- promises 18 to 27

    private static void rules() {
        TenRules x = start();
        due("refl", x.refl(lay(x, "f x")), 0);
        due("refl", concl(x, 0), "((= (f x)) (f x))");
        refused("refl", x, x.refl(1), 2);
        refused("refl", x, x.refl(lay(x, "f f")), 4);
        due("its fault", x.fault(), 3);
        due("assume", x.assume(lay(x, "f x = y")), 1);
        refused("assume", x, x.assume(lay(x, "x")), 5);
        due("5 has no fault", x.fault(), 0);
        due("5 empties the tape", x.size(), 0);
        refused("assume", x, x.assume(-1), 2);
        refused("assume", x, x.assume(lay(x, "(")), 4);
        due("trans", x.trans(0, 1), 2);
        due("trans", concl(x, 2), "((= (f x)) y)");
        due("trans's hyp", hyp(x, 2, 0), "((= (f x)) y)");
        refused("trans", x, x.trans(1, 0), 5);
        refused("trans", x, x.trans(0, 3), 1);
        refused("trans", x, x.trans(-1, 0), 1);
        due("refl f", x.refl(lay(x, "f")), 3);
        due("comb", x.comb(3, 1), 4);
        due("comb", concl(x, 4), "((= (f (f x))) (f y))");
        refused("comb", x, x.comb(1, 3), 5);
        refused("comb", x, x.comb(3, 3), 5);
        refused("comb", x, x.comb(5, 0), 1);
        due("abs", x.abs(2, 4), 5);
        due("abs of a VAR that isn't there", concl(x, 5), "((= \\o.(f (f x))) \\o.(f y))");
        refused("abs: in a hyp", x, x.abs(0, 4), 5);
        due("abs", x.abs(0, 0), 6);
        due("abs", concl(x, 6), "((= \\i.(f 0)) \\i.(f 0))");
        due("abs again", x.abs(3, 6), 7);
        due("abs again", concl(x, 7), "((= \\(i>i).\\i.(0 1)) \\(i>i).\\i.(0 1))");
        refused("abs", x, x.abs(4, 0), 1);
        refused("abs", x, x.abs(-1, 0), 1);
        refused("abs", x, x.abs(0, 8), 1);
        due("beta", x.beta(lay(x, "(\\a:i.\\b:i.g a b) (f y)")), 8);
        due("beta", concl(x, 8), "((= (\\i.\\i.((g 0) 1) (f y))) \\i.((g (f y)) 0))");
        due("beta of a lambda", x.beta(lay(x, "(\\h:i>i.\\b:i.h (h b)) (\\a:i.a)")), 9);
        due("beta of a lambda", concl(x, 9),
            "((= (\\(i>i).\\i.(0 (0 1)) \\i.0)) \\i.(\\i.1 (\\i.1 0)))");
        refused("beta", x, x.beta(lay(x, "\\a:i.a")), 5);
        refused("beta", x, x.beta(lay(x, "f x")), 5);
        refused("beta", x, x.beta(-1), 2);
        refused("beta", x, x.beta(lay(x, "?")), 4);
        due("eta", x.eta(lay(x, "\\a:i.g x a")), 10);
        due("eta", concl(x, 10), "((= \\i.((g x) 0)) (g x))");
        due("eta of a lambda", x.eta(lay(x, "\\a:i.(\\b:i.\\d:i.b) a")), 11);
        due("eta of a lambda", concl(x, 11), "((= \\i.(\\i.\\i.1 0)) \\i.\\i.0)");
    }

    private static void rulesWithHyps() {
        TenRules x = start();
        refused("eta", x, x.eta(lay(x, "\\a:i.g a a")), 5);
        refused("eta", x, x.eta(lay(x, "f")), 5);
        refused("eta", x, x.eta(9), 2);
        refused("eta", x, x.eta(lay(x, "\\a:i.g a a a")), 4);
        x = told("var x:i;var y:i;var p:o;var q:o;const h:o>o;thm a assume p=q;thm b assume p");
        due("eqmp", x.eqmp(0, 1), 2);
        due("eqmp", concl(x, 2), "q");
        due("eqmp's hyps", x.theorem(2, 0), 2);
        due("eqmp's first hyp", hyp(x, 2, 0), "((= p) q)");
        due("eqmp's second hyp", hyp(x, 2, 1), "p");
        refused("eqmp", x, x.eqmp(0, 2), 5);
        refused("eqmp", x, x.eqmp(1, 1), 5);
        refused("eqmp", x, x.eqmp(3, 1), 1);
        TenRules z = told("var p:o;var q:o;const h:o>o;const n:o>o>o;const k:o;thm a assume h p;"
            + "thm b assume p=q;thm c assume n p q;thm d assume p;thm e refl h;thm f assume n k p");
        refused("trans of what is no equation", z, z.trans(0, 1), 5);
        refused("trans with what is no equation", z, z.trans(1, 2), 5);
        refused("trans with what is no equation", z, z.trans(3, 1), 5);
        refused("comb of what is no equation", z, z.comb(0, 1), 5);
        refused("comb with what is no equation", z, z.comb(4, 2), 5);
        refused("comb with what is no equation", z, z.comb(4, 0), 5);
        refused("eqmp of what is no equation", z, z.eqmp(2, 3), 5);
        refused("abs of what is no equation", z, z.abs(1, 5), 5);
        refused("sym of what is no equation", z, z.sym(2), 5);
        due("deduct", x.deduct(1, 2), 3);
        due("deduct", concl(x, 3), "((= p) q)");
        due("p goes from the second's hyps alone", hyp(x, 3, 0) + hyp(x, 3, 1), "((= p) q)p");
        due("deduct takes both away", x.deduct(1, 1), 4);
        due("deduct takes both away", x.theorem(4, 0), 0);
        due("deduct takes none away", x.deduct(0, 1), 5);
        due("deduct takes none away", x.theorem(5, 0), 2);
        due("what is assumed of the other", x.deduct(x.assume(lay(x, "q")), 2), 7);
        due("both ways", hyp(x, 7, 0) + hyp(x, 7, 1), "((= p) q)p");
        refused("deduct", x, x.deduct(8, 0), 1);
        refused("deduct", x, x.deduct(0, -1), 1);
        due("inst", x.inst(2, 2, lay(x, "h q")), 8);
        due("inst in hyps", hyp(x, 8, 0) + hyp(x, 8, 1), "((= (h q)) q)(h q)");
        due("inst in a concl", x.inst(2, 3, lay(x, "h q")), 9);
        due("at once, not again", concl(x, 9), "(h q)");
        int pair = x.deduct(x.assume(lay(x, "h p")), x.assume(lay(x, "h q")));
        due("inst: like ones once", x.inst(pair, 2, lay(x, "q")), 13);
        due("one hyp", x.theorem(13, 0), 1);
        due("a VAR that isn't there", x.inst(0, 0, lay(x, "y")), 14);
        due("the same", x.same(0, 14), 1);
        refused("inst", x, x.inst(2, 2, lay(x, "x")), 5);
        lay(x, "p");
        refused("inst", x, x.inst(15, 2, 1), 1);
        refused("inst", x, x.inst(2, 4, 1), 1);
        refused("inst", x, x.inst(2, -1, 99), 1);
        refused("inst", x, x.inst(2, 2, 99), 2);
        due("the tape stays", x.size(), 20);
        due("n bytes alone", x.inst(2, 2, 1), 15);
        refused("inst", x, x.inst(2, 2, lay(x, "p p")), 4);
        due("inst under lambdas", x.inst(x.refl(lay(x, "\\a:i.\\b:i.x")), 0,
            lay(x, "(\\a:i.a) y")), 17);
        due("moved levels", concl(x, 17), "((= \\i.\\i.(\\i.2 y)) \\i.\\i.(\\i.2 y))");
    }

    // ---- promise V: no room

    private static void limits() {
        TenRules x = told("var x:i;const r:i>i;const m:i>i>i;const n:i>i>o;thm e refl r");
        StringBuilder t = new StringBuilder("x");
        for (int i = 0; i < 11; i++) {
            t.insert(0, "r(").append(")");
        }
        int twelve = x.refl(lay(x, "r(" + t + ")"));
        due("SIZE of r^12 x = r^12 x", x.theorem(twelve, 1), 53);
        int so = twelve;
        for (int i = 0; i < 11; i++) {
            so = x.comb(0, so);
        }
        due("SIZE 97", x.theorem(so, 1), 97);
        refused("SIZE 101 by comb", x, x.comb(0, so), 3);
        hypSizes();
        due("in text", x.theory(lay(x, "thm z assume n x x;thm y refl x;thm w inst z x " + t)), 16);
        due("SIZE of a def's theorem isn't asked",
            x.theory(lay(x, "def d=\\x:i." + bigBody())), 17);
        due("104", x.theorem(16, 1), 104);
        due("nor by conv", x.convert(lay(x, "def;d")), 17);
        due("104", x.theorem(17, 1), 104);
        refused("but of what a rule makes of it", x, x.convert(lay(x, "def then all;d")), 3);
        due("abs at 99", x.abs(0, so), 18);
        due("99", x.theorem(18, 1), 99);
        refused("abs at 101", x, x.abs(0, 18), 3);
        faulty(x, "thm s comb e q", 2, 13);
    }

    private static void hypSizes() {
        TenRules x = told("var x:i;var p:o;const r:i>i;const m:i>i>i;const n:i>i>o;const h:o>o;"
            + "var q:o;thm a assume q;thm b assume h(h p);thm d deduct b a;thm e eqmp d b");
        due("q by h (h p), q", hyp(x, 3, 0) + hyp(x, 3, 1), "(h (h p))q");
        due("q", concl(x, 3), "q");
        String one = "(m x x)";
        String two = "(m " + one + one + ")";
        String three = "(m " + two + two + ")";
        String most = "n(m(m " + three + "(m " + one + "(r(r x))))(m " + three + "(m " + one + " x)))";
        String even = most + "((\\a:i.a)x)";
        String odd = most + one;
        due("3 + 89 + 4", x.term(lay(x, even), 0), 96);
        due("3 + 89 + 5", x.term(lay(x, odd), 0), 97);
        due("a HYP of 100", x.inst(3, 1, lay(x, even)), 4);
        due("two of them", x.theorem(4, 0), 2);
        refused("a HYP of 101", x, x.inst(3, 1, lay(x, odd)), 3);
        faulty(x, "thm f inst e p " + odd, 5, 6);
    }

    /** SIZE 99 with the x that a lambda binds. */
    private static String bigBody() {
        String one = "(m x x)";
        String two = "(m " + one + one + ")";
        String three = "(m " + two + two + ")";
        return "m(m " + three + "(m " + one + "(m x (r x))))(m " + three + "(m " + one
            + "(r(r(r(r x))))))";
    }

    private static void sixtyTheorems() {
        TenRules x = told("var x:i;var p:o;var f:i>i");
        for (int t = 0; t < 59; t++) {
            due("refl", x.refl(lay(x, "x")), t);
        }
        faulty(x, "thm a refl x;thm b refl x", 5, 13);
        faulty(x, "def a=\\a:i.a;def b=\\a:i.a", 5, 13);
        due("the 60th", x.theory(lay(x, "thm a refl x")), 60);
        faulty(x, "thm b refl x", 5, 0);
        faulty(x, "def b=\\a:i.a", 5, 0);
        due("vars may come yet", x.theory(lay(x, "var y:i")), 60);
        refused("refl", x, x.refl(lay(x, "x")), 3);
        due("3 empties the tape", x.size(), 0);
        refused("refl with a fault", x, x.refl(lay(x, "x x")), 4);
        refused("trans", x, x.trans(0, 0), 3);
        refused("comb that can't", x, x.comb(0, 0), 5);
        refused("abs", x, x.abs(0, 0), 3);
        refused("beta", x, x.beta(lay(x, "(\\a:i.a) x")), 3);
        refused("beta that can't", x, x.beta(lay(x, "x")), 5);
        refused("assume", x, x.assume(lay(x, "p")), 3);
        refused("assume that can't", x, x.assume(lay(x, "x")), 5);
        refused("eqmp that can't", x, x.eqmp(0, 0), 5);
        refused("deduct", x, x.deduct(0, 0), 3);
        refused("inst", x, x.inst(0, 0, lay(x, "x")), 3);
        refused("inst that can't", x, x.inst(0, 0, lay(x, "p")), 5);
        refused("eta", x, x.eta(lay(x, "\\a:i.f a")), 3);
        refused("sym", x, x.sym(0), 3);
        refused("convert", x, x.convert(lay(x, "all;x")), 3);
        refused("convert that can't", x, x.convert(lay(x, "no;x")), 5);
        refused("rewrite", x, x.rewrite(0, lay(x, "all")), 3);
        refused("normal", x, x.normal(lay(x, "x")), 3);
        refused("decide", x, x.decide(lay(x, "x=x")), 3);
        refused("decide that can't", x, x.decide(lay(x, "x=y")), 5);
        refused("unfold", x, x.unfold(0), 3);
        due("nothing was counted", x.about(4), 60);
        due("nothing came", x.about(2), 60);
        due("fresh", x.fresh(), 60);
    }

    // ---- promise 28

    private static void symmetry() {
        TenRules x = start();
        tell(x, "thm a assume f x = y;thm b assume p");
        due("sym", x.sym(0), 2);
        due("sym", concl(x, 2), "((= y) (f x))");
        due("sym's hyp", hyp(x, 2, 0), "((= (f x)) y)");
        due("sym's maker", x.theorem(2, 2), 11);
        int[] want = {3, 0, 2, 0, 0, 2, 1, 0, 0, 0};
        for (int rule = 0; rule < 10; rule++) {
            due("sym used " + rule, x.used(rule), want[rule]);
        }
        refused("sym", x, x.sym(1), 5);
        refused("sym", x, x.sym(3), 1);
        refused("sym", x, x.sym(-1), 1);
        x = told("var x:i;var y:i;const r:i>i;thm a refl r;"
            + "thm b assume r(r(r(r(r(r(r(r(r(r(r x))))))))))=y");
        due("sym: 9 + 3 * 23 + 1", x.sym(1), 2);
        int longer = x.comb(0, 1);
        for (int i = 0; i < 4; i++) {
            longer = x.comb(0, longer);
        }
        due("9 + 3 * 33 + 11 is too much", x.sym(longer), NONE);
        due("no room", x.trouble(), 3);
    }

    // ---- promise 29

    private static int converted(TenRules x, String text, String right) {
        int t = x.convert(lay(x, text));
        if (right == null) {
            refused(text, x, t, 5);
            return t;
        }
        if (t < 0) {
            due(text + ", trouble", x.trouble(), 0);
            return t;
        }
        x.writeSide(t, 1);
        due(text, last(x), right);
        String subject = text.substring(text.indexOf(';') + 1);
        x.writeSide(t, 0);
        String left = last(x);
        x.write(lay(x, subject));
        due(text + ", left side", left, last(x));
        due(text + ", maker", x.theorem(t, 2), 11);
        return t;
    }

    private static void conversions() {
        TenRules x = start();
        tell(x, "def d=\\a:i.a;def e=d;const h:(i>i)>i");
        converted(x, "all;f x", "(f x)");
        converted(x, "no;f x", null);
        converted(x, "beta;(\\a:i.f a) y", "(f y)");
        converted(x, "beta;f x", null);
        converted(x, "eta;\\a:i.f a", "f");
        converted(x, "eta;f", null);
        converted(x, "def;d", "\\i.0");
        converted(x, "def;c", null);
        converted(x, "def;x", null);
        converted(x, "def then def;e", "\\i.0");
        converted(x, "def then def then def;e", null);
        converted(x, "def then no;e", null);
        converted(x, "no else def;e", "d");
        converted(x, "no else no else all;e", "e");
        converted(x, "no else def then no else def;e", "\\i.0");
        converted(x, "(def then no) else all;e", "e");
        converted(x, "def then no else all;e", "d");
        converted(x, "try no;x", "x");
        converted(x, "try def;e", "d");
        converted(x, "rep def;e", "\\i.0");
        converted(x, "rep def;c", "c");
        converted(x, "left def;d x", "(\\i.0 x)");
        converted(x, "left def;f x", null);
        converted(x, "left all;x", null);
        converted(x, "right left def;f (d x)", "(f (\\i.0 x))");
        converted(x, "right def;d x", null);
        converted(x, "right all;x", null);
        converted(x, "in left def;\\a:i.d a", "\\i.(\\i.1 0)");
        converted(x, "in beta;\\a:i.(\\b:i.g a b) a", "\\i.((g 0) 0)");
        converted(x, "in in beta;\\a:i.\\b:i.(\\e:i.g e) b", "\\i.\\i.(g 1)");
        converted(x, "in all;x", null);
        converted(x, "in no;\\a:i.a", null);
        converted(x, "once def;g (d x) (d y)", "((g (\\i.0 x)) (d y))");
        converted(x, "once beta;f ((\\a:i.(\\b:i.b) a) x)", "(f (\\i.0 x))");
        converted(x, "once eta;h \\a:i.f a", "(h f)");
        converted(x, "once def;\\a:i.\\b:i.g b (d a)", "\\i.\\i.((g 1) (\\i.2 0))");
        converted(x, "once no;\\a:i.g a a", null);
        converted(x, "rep once def;g (e x) (e y)", "((g (\\i.0 x)) (\\i.0 y))");
        converted(x, "in eta then eta;\\a:i.\\b:i.a=b", "=");
        converted(x, "once (def then def);g (e x) (d y)", "((g (\\i.0 x)) (d y))");
        converted(x, "left (left all else no) else all;f x", "(f x)");
    }

    private static void convFaults() {
        TenRules x = start();
        tell(x, "thm t refl x");
        String[] texts = {"", "x", "all", "all x", "all;", "all;x;", "by", "by x;x", "by then;x",
            "by q;x", "try;x", "refl;x", "all then;x", "all else else;x", "(all;x", "all);x", "();x",
            "all;q", "all;x x", "all;x ?", "then;x", "all all;x", "rep rep rep rep rep rep rep rep rep "
            + "rep rep rep rep all;x", "try(rep(left(right(in(once(try(all)))))));x",
            "try(rep(left(right(in(once(all)))))) then (all);q", "by t by t;x", "all;then"};
        int[] faults = {1, 1, 1, 1, 1, 1, 1, 2, 1, 2, 1, 1, 1, 1, 1, 1, 1, 2, 3, 1, 1, 1, 5, 5, 2, 1,
            1};
        int[] places = {0, 0, 3, 4, 4, 5, 2, 3, 3, 3, 3, 0, 8, 9, 4, 3, 1, 4, 6, 6, 0, 4, 48, 27, 48,
            5, 4};
        for (int i = 0; i < texts.length; i++) {
            int before = x.about(4);
            refused(texts[i], x, x.convert(lay(x, texts[i])), 4);
            due(texts[i] + ", fault", x.fault(), faults[i]);
            due(texts[i] + ", where", x.where(), places[i]);
            due(texts[i] + ", tape", x.size(), 0);
            due(texts[i] + ", rules", x.about(4), before);
        }
        refused("convert", x, x.convert(-1), 2);
        refused("convert", x, x.convert(1), 2);
        refused("thirteen", x, x.convert(lay(x, "try try(try(try(try(try(try in no)))));f x")), 4);
        due("thirteen, there", x.fault() * 1000 + x.where(), 5000 + 28);
        due("twelve", x.convert(lay(x, "try try(try(try(try(try(try no)))));f x")), 1);
        due("beside one another", x.convert(lay(x, "(((((all)))))then(((((((all)))))));x")), 2);
    }

    private static void byTheorems() {
        TenRules x = told("var x:i;var y:i;var z:i;const m:i>i>i;const r:i>i;const c:i;"
            + "const h:(i>i)>i;thm a assume c=c;thm s assume m x y = m y x;thm q assume m z c = z;"
            + "thm u refl m x y;thm w beta (\\a:i.r a) x");
        converted(x, "by s;m x y", "((m y) x)");
        converted(x, "by s;m y x", null);
        due("hyps come along", x.theorem(5, 0), 1);
        converted(x, "by a;c", "c");
        converted(x, "by a;x", null);
        converted(x, "by q;m z c", "z");
        converted(x, "by q;m c c", null);
        int before = x.used(8);
        converted(x, "by u;m c (r x)", "((m c) (r x))");
        due("two insts", x.used(8), before + 2);
        converted(x, "by u;m x y", "((m x) y)");
        due("by the VAR itself, too", x.used(8), before + 4);
        converted(x, "by u;m y x", null);
        due("one behind another, in vain: refused", x.used(8), before + 4);
        converted(x, "by u else all;m y x", "((m y) x)");
        due("one behind another, in vain", x.used(8), before + 6);
        converted(x, "by u else all;r x", "(r x)");
        due("nothing is counted if none are found", x.used(8), before + 6);
        converted(x, "by w;(\\b:i.r b) c", "(r c)");
        converted(x, "in by u;\\a:i.m a c", "\\i.((m 0) c)");
        x = told("var x:i;var y:i;var v:i>i;const m:i>i>i;const r:i>i;const h:(i>i)>i;const n:i;"
            + "thm k beta (\\e:i.h \\a:i.m a e) x;thm l refl h \\a:i.x;thm j refl m x x;"
            + "thm p assume n=n;thm o assume m x x = m x x;thm g refl v x;thm i assume h v = n");
        converted(x, "by k;(\\e:i.h \\a:i.m a e) (r n)", "(h \\i.((m 0) (r n)))");
        converted(x, "by l;h \\a:i.r n", "(h \\i.(r n))");
        converted(x, "by l;h \\a:i.r a", null);
        converted(x, "by j;m n n", "((m n) n)");
        converted(x, "by j;m n (r n)", null);
        converted(x, "by g;r n", "(r n)");
        converted(x, "by g;m n y", "((m n) y)");
        converted(x, "by i;h v", "n");
        converted(x, "by i;h r", null);
        converted(x, "once by l;r (h \\a:i.h \\b:i.a)", "(r (h \\i.(h \\i.0)))");
        x = told("var p:o;thm a assume p");
        converted(x, "by a;p", null);
        x = told("var x:i;const r:i>i;thm a assume x = r x");
        refused("without an end", x, x.convert(lay(x, "rep once by a;x")), 3);
    }

    // ---- how rules are counted

    private static void used(TenRules x, String text, int... counts) {
        int[] before = new int[10];
        for (int rule = 0; rule < 10; rule++) {
            before[rule] = x.used(rule);
        }
        int t = x.convert(lay(x, text));
        due(text + " came", t >= 0 ? 1 : 0, 1);
        for (int rule = 0; rule < 10; rule++) {
            int want = rule < counts.length ? counts[rule] : 0;
            due(text + ", used " + rule, x.used(rule) - before[rule], want);
        }
    }

    private static void counting() {
        TenRules x = start();
        tell(x, "def d=\\a:i.a;def e=d");
        // refl, trans, comb, abs, beta, assume, eqmp, deduct, inst, eta
        used(x, "all;x", 1);
        used(x, "def;d");
        used(x, "def then def;e", 0, 1);
        used(x, "def then def then all;e", 1, 2);
        used(x, "(def then no) else all;e", 1);
        used(x, "(all then no) else all;e", 2);
        used(x, "(all then all then no) else all;e", 3, 1);
        used(x, "try no;x", 1);
        used(x, "rep def;e", 0, 1);
        used(x, "rep def;d");
        used(x, "rep def;x", 1);
        used(x, "beta;(\\a:i.a) x", 0, 0, 0, 0, 1);
        used(x, "beta else all;x", 1);
        used(x, "eta;\\a:i.f a", 0, 0, 0, 0, 0, 0, 0, 0, 0, 1);
        used(x, "left def;d x", 1, 0, 1);
        used(x, "left no else all;d x", 1);
        used(x, "right no else all;d x", 2);
        used(x, "right all;f x", 2, 0, 1);
        used(x, "in all;\\a:i.a", 1, 0, 0, 1);
        used(x, "in no else all;\\a:i.a", 1);
        used(x, "once def;f (d x)", 2, 0, 2);
        used(x, "once no else all;f (f x)", 3);
        used(x, "once def;\\a:i.f (d a)", 2, 0, 2, 1);
        used(x, "rep once (beta else eta else def);d x", 1, 1, 1, 0, 1);
    }

    private static void budget() {
        TenRules x = told("var x:i;var f:i>i;var y:i");
        // Each 'once no' on DEEP uses twelve refl in vain.
        String eight = "once no else ".repeat(8);
        due("a hundred", x.convert(lay(x, eight + "right no else all then all;" + DEEP)), 0);
        due("counted", x.about(4), 100);
        due("refl", x.used(0), 99);
        due("trans", x.used(1), 1);
        refused("a hundred and one", x,
            x.convert(lay(x, eight + "right no else right no else all then all;" + DEEP)), 3);
        due("nothing more is counted", x.about(4), 100);
        refused("without an end", x, x.convert(lay(x, "rep all;x")), 3);
        String lambdas = "\\a:i.".repeat(12) + "a";
        String ins = "once no else ".repeat(8);
        due("in uses one of them", x.convert(lay(x, ins + "in no else in no else in no else all;"
            + lambdas)), 1);
        due("but isn't counted", x.about(4), 101);
        refused("one more", x, x.convert(lay(x, ins
            + "in no else in no else in no else in no else all;" + lambdas)), 3);
        refused("in itself is one more", x, x.convert(lay(x, ins
            + "in no else in no else in no else in no else in no else no;" + lambdas)), 3);
        due("each call begins anew", x.convert(lay(x, eight + "right no else all then all;" + DEEP)),
            2);
    }

    /** More than a first guess of how many conversions stand within one another. */
    private static void manyFrames() {
        TenRules x = told("var x:i;const c:o;def j=\\a:i.\\a:i.\\a:i.c;def k=" + "\\a:i.".repeat(12)
            + "j");
        String steps = "try ".repeat(8) + "once(" + "no else ".repeat(40) + "def)";
        int a = x.assume(lay(x, "k" + " x".repeat(15)));
        int[] before = {x.used(0), x.used(2), x.used(6), x.about(4)};
        int t = x.rewrite(a, lay(x, steps));
        due("k unfolded", t, 3);
        due("13 + 30", x.theorem(t, 1), 43);
        due("refl x each time", x.used(0) - before[0], 15);
        due("comb each time", x.used(2) - before[1], 15);
        due("eqmp", x.used(6) - before[2], 1);
        due("no more", x.about(4) - before[3], 31);
        due("unfolded", concl(x, t), "(".repeat(15) + "\\i.".repeat(12) + "j" + " x)".repeat(15));
    }

    // ---- promise 30

    private static void rewriting() {
        TenRules x = start();
        tell(x, "def d=\\a:i.a;thm t assume g (d x) y");
        due("rewrite", x.rewrite(1, lay(x, "rep once (def else beta)")), 2);
        due("rewrite", concl(x, 2), "((g x) y)");
        due("its hyp", hyp(x, 2, 0), "((g (d x)) y)");
        due("its maker", x.theorem(2, 2), 11);
        due("eqmp", x.used(6), 1);
        refused("rewrite", x, x.rewrite(1, lay(x, "no")), 5);
        refused("rewrite", x, x.rewrite(1, lay(x, "rep all")), 3);
        refused("rewrite", x, x.rewrite(1, lay(x, "all;")), 4);
        due("its place", x.where(), 3);
        refused("rewrite", x, x.rewrite(1, 0), 4);
        lay(x, "all");
        refused("rewrite", x, x.rewrite(3, 3), 1);
        refused("rewrite", x, x.rewrite(-1, -1), 1);
        refused("rewrite", x, x.rewrite(1, -1), 2);
        refused("rewrite", x, x.rewrite(1, 21), 2);
        due("the tape stays", x.size(), 20);
        due("rewrite by all", x.rewrite(1, 3), 3);
        due("the same", x.same(1, 3), 1);
    }

    // ---- promises 31 to 33

    private static void normalForms() {
        TenRules x = start();
        tell(x, "def d=\\a:i.a;def k=\\a:i.\\b:i.a;def t=\\h:i>i.\\a:i.h (h a)");
        String[][] texts = {{"x", "x"}, {"d x", "x"}, {"k x y", "x"}, {"t f x", "(f (f x))"},
            {"t d", "\\i.0"}, {"\\a:i.f a", "f"}, {"\\a:i.\\b:i.g a b", "g"},
            {"\\a:i.d", "\\i.\\i.1"}, {"t (k x)", "\\i.x"}, {"\\a:i.\\b:i.a=b", "="}};
        for (int i = 0; i < texts.length; i++) {
            int n = x.normal(lay(x, texts[i][0]));
            due("normal " + texts[i][0], n, 3 + i);
            x.writeSide(n, 1);
            due("normal " + texts[i][0], last(x), texts[i][1]);
            due("maker", x.theorem(n, 2), 11);
        }
        refused("normal", x, x.normal(1), 2);
        refused("normal", x, x.normal(lay(x, "f f")), 4);
        refused("normal", x, x.normal(lay(x, "t t t f x")), 4);
        refused("refl of what is 53", x, x.normal(lay(x, "g (" + DEEP + ") (" + DEEP + ")")), 3);
    }

    private static void deciding() {
        TenRules x = start();
        tell(x, "def d=\\a:i.a;def k=\\a:i.\\b:i.a");
        due("decide", x.decide(lay(x, "k x y = d x")), 2);
        due("decide", concl(x, 2), "((= ((k x) y)) (d x))");
        due("no hyps", x.theorem(2, 0), 0);
        due("its maker", x.theorem(2, 2), 11);
        due("decide by eta", x.decide(lay(x, "(\\a:i.f (d a)) = f")), 3);
        due("decide", x.decide(lay(x, "x = x")), 4);
        due("decide", concl(x, 4), "((= x) x)");
        int before = x.about(4);
        due("decide x = x", x.decide(lay(x, "x = x")), 5);
        due("refl, refl, sym, trans", x.about(4), before + 9);
        refused("decide", x, x.decide(lay(x, "x = y")), 5);
        refused("decide", x, x.decide(lay(x, "g x y")), 5);
        refused("decide", x, x.decide(lay(x, "f")), 5);
        refused("decide", x, x.decide(lay(x, "x = f")), 4);
        refused("decide", x, x.decide(40), 2);
        refused("decide", x, x.decide(-1), 2);
    }

    private static void unfolding() {
        TenRules x = start();
        tell(x, "def d=\\a:i.a;def e=d;thm t assume g (e x) (d y);thm u assume p");
        due("unfold", x.unfold(2), 4);
        due("unfold", concl(x, 4), "((g (\\i.0 x)) (\\i.0 y))");
        due("its hyp", hyp(x, 4, 0), "((g (e x)) (d y))");
        due("its maker", x.theorem(4, 2), 11);
        int before = x.about(4);
        due("unfold nothing", x.unfold(3), 5);
        due("unfold nothing", x.same(3, 5), 1);
        due("refl, eqmp", x.about(4), before + 2);
        due("unfold a def", x.unfold(1), 6);
        due("unfold a def", concl(x, 6), "((= \\i.0) \\i.0)");
        refused("unfold", x, x.unfold(7), 1);
        refused("unfold", x, x.unfold(-1), 1);
        x = told("var x:i;const r:i>i;thm a refl r;thm b refl r(r(r(r(r(r(r(r(r(r(r x))))))))))");
        refused("refl of SIZE 49 and more", x, x.unfold(1), 3);
    }

    // ---- promises 34 to 36

    private static void names() {
        TenRules x = start();
        tell(x, "thm a refl x;def abcdef=\\a:i.a;thm ab refl y");
        x.refl(lay(x, "x"));
        lay(x, "  abcdef x");
        int trouble = x.trouble();
        for (int n : new int[] {8, 9}) {
            due("named " + n, throwsNoSuch(x, n) ? NONE : x.named(n), 1);
        }
        due("named a", x.named(3), 0);
        due("named ab", x.named(4), 2);
        for (int n : new int[] {-1, 0, 1, 2, 5, 10, 20, 21, Integer.MAX_VALUE, Integer.MIN_VALUE}) {
            due("none is named in " + n, throwsNoSuch(x, n) ? 1 : 0, 1);
        }
        due("the tape stays", x.size(), 20);
        due("trouble stays", x.trouble(), trouble);
        x.write(10);
        due("a text was read", x.fault(), 0);
        lay(x, "ab");
        due("blanks aside", x.named(20), 2);
        x.write(2);
        due("ab is no term", x.fault(), 2);
        lay(x, "ab");
        x.named(2);
        due("named is no reading", x.fault() * 1000 + x.where(), 2000);
        lay(x, "?");
        due("a bad byte", throwsNoSuch(x, 21) ? 1 : 0, 1);
        x.fresh();
        due("gone", throwsNoSuch(x, 2) ? 1 : 0, 1);
    }

    private static void troubles() {
        TenRules x = start();
        due("0", x.trouble(), 0);
        refused("1", x, x.about(9), 1);
        x.feed(0, 0, 0, 0, 0);
        x.fresh();
        x.size();
        x.fault();
        x.where();
        due("stays", x.trouble(), 1);
        refused("2", x, x.refl(21), 2);
        refused("4", x, x.refl(1), 4);
        due("fault", x.fault(), 1);
        due("where", x.where(), 0);
        due("octet may be refused", x.octet(0), -2);
        due("so it ends the place", x.where(), NONE);
        due("but not the fault", x.fault(), 1);
        tell(x, "var p:o;var x:i");
        due("no fault", x.fault(), 0);
        refused("5", x, x.assume(lay(x, "x")), 5);
        refused("2 reads nothing", x, x.assume(1), 2);
        refused("fault", x, x.assume(lay(x, "p p")), 4);
        refused("1 reads nothing", x, x.rewrite(0, 0), 1);
        due("the fault of the latest text", x.fault(), 3);
        due("assume", x.assume(lay(x, "p")), 0);
        due("0", x.trouble(), 0);
        due("0", x.fault(), 0);
    }
}
