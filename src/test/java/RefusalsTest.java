import java.util.ArrayList;
import java.util.List;

/**
 * 'Terms' V and the promises: which call is refused, by which number, in which order, what a refused
 * call leaves as it was, and what is answered up to there.
 */
public final class RefusalsTest extends Checks {
    private static final String START = "var x:i;var p:o;var f:i>i;const c:i;const g:i>i>o;thm t refl x;"
        + "thm u assume p;thm h refl f;def d=\\a:i.a";
    private static final int THEOREMS = 4;
    private static final int VARS = 3;
    private static final int[] NO_NUMBERS = {-1, -2, Integer.MIN_VALUE, Integer.MAX_VALUE};

    /** A call that reads n bytes, a text of it, and what it answers then. */
    private record Reading(String name, Use use, String text, int answer) { }

    private interface Use {
        int of(TenRules x, int n);
    }

    /** A call that takes the number of a THEOREM, or of a VAR. */
    private interface Taking {
        int of(TenRules x, int t);
    }

    private static final List<Reading> READINGS = List.of(
        new Reading("theory", TenRules::theory, "var z:i", 4),
        new Reading("term", (x, n) -> x.term(n, 0), "f x", 3),
        new Reading("write", TenRules::write, "f x", 5),
        new Reading("writeType", TenRules::writeType, "f x", 1),
        new Reading("refl", TenRules::refl, "f x", 4),
        new Reading("beta", TenRules::beta, "(\\a:i.a)x", 4),
        new Reading("assume", TenRules::assume, "p", 4),
        new Reading("inst", (x, n) -> x.inst(0, 0, n), "c", 4),
        new Reading("eta", TenRules::eta, "\\a:i.f a", 4),
        new Reading("convert", TenRules::convert, "all;x", 4),
        new Reading("rewrite", (x, n) -> x.rewrite(1, n), "all", 4),
        new Reading("normal", TenRules::normal, "d x", 4),
        new Reading("decide", TenRules::decide, "d x=x", 4));

    public static void main(String[] args) {
        newObject();
        numbersOfBytes();
        emptiesTheTape();
        noText();
        faultStays();
        placeGoes();
        troubleStays();
        fresh();
        about();
        used();
        theorem();
        same();
        better();
        term();
        write();
        writeOf();
        writeSide();
        octet();
        noSuchTheorem();
        notSo();
        inst();
        rewrite();
        decide();
        sixtyTheorems();
        orderOfRefusals();
        named();
        many();
        end();
    }

    private static Scene scene(String text) {
        return new Scene(text, START);
    }

    // ---- promise 1

    private static void newObject() {
        for (int what = 0; what < 6; what++) {
            due("about " + what, new TenRules().about(what), 0);
        }
        for (int rule = 0; rule < 10; rule++) {
            due("used " + rule, new TenRules().used(rule), 0);
        }
        TenRules x = new TenRules();
        due("nothing", x.trouble() + x.fault() + x.size() + x.fresh(), 0);
        due("no place", x.where(), NONE);
        due("nothing written", x.octet(0), -2);
        due("nothing named", throwsNoSuch(x, 0));
        Call[] calls = {y -> y.theorem(0, 0), y -> y.same(0, 0), y -> y.better(0), y -> y.writeOf(0, NONE),
            y -> y.writeSide(0, 0), y -> y.trans(0, 0), y -> y.comb(0, 0), y -> y.abs(0, 0),
            y -> y.eqmp(0, 0), y -> y.deduct(0, 0), y -> y.inst(0, 0, 0), y -> y.sym(0),
            y -> y.rewrite(0, 0), y -> y.unfold(0)};
        for (int i = 0; i < calls.length; i++) {
            refuses("new: call " + i, new Scene(null), calls[i], 1);
        }
    }

    // ---- calls that read: 2; a call that reads n bytes empties THE TAPE, if it isn't refused by 1, 2

    private static void numbersOfBytes() {
        for (Reading r : READINGS) {
            answers(r.name, scene(r.text), x -> r.use.of(x, r.text.length()), r.answer);
            answers(r.name + " of all bytes", scene(r.text), x -> r.use.of(x, x.size()), r.answer);
            refuses(r.name + " of one more", scene(r.text), x -> r.use.of(x, x.size() + 1), 2);
            refuses(r.name + " of no tape", new Scene("", START), x -> r.use.of(x, 1), 2);
            for (int n : NO_NUMBERS) {
                refuses(r.name + " of " + n, scene(r.text), x -> r.use.of(x, n), 2);
            }
            TenRules x = told(START);
            int n = lay(x, " ".repeat(400 - r.text.length()) + r.text);
            due(r.name + " of 400", r.use.of(x, n), r.answer);
            lay(x, r.text);
            refused(r.name + " of 401", x, r.use.of(x, 401), 2);
        }
    }

    private static void emptiesTheTape() {
        for (Reading r : READINGS) {
            TenRules x = told(START);
            lay(x, r.text + " ".repeat(60) + "?");
            due(r.name + " reads n bytes alone", r.use.of(x, r.text.length()), r.answer);
            due(r.name + " empties all of it", x.size(), 0);
            due(r.name + " leaves room", lay(x, r.text) > 0 ? x.size() : 0, 20);
        }
        TenRules x = told(START);
        lay(x, "p " + " ".repeat(50));
        refused("2: stays", x, x.assume(61), 2);
        refused("1: stays", x, x.term(2, 8), 1);
        refused("1: stays", x, x.inst(4, 0, 1), 1);
        refused("1: stays", x, x.rewrite(4, 1), 1);
        due("it stays", x.size(), 60);
        due("what lies on it, too", x.assume(2), 4);
        lay(x, "x x");
        refused("4: goes", x, x.write(3), 4);
        due("4: goes", x.size(), 0);
        lay(x, "x");
        refused("5: goes", x, x.assume(1), 5);
        due("5: goes", x.size(), 0);
        lay(x, "rep all;x");
        refused("3: goes", x, x.convert(9), 3);
        due("3: goes", x.size(), 0);
        lay(x, "a");
        x.trans(0, 1);
        x.about(7);
        x.unfold(9);
        x.sym(0);
        x.fresh();
        due("those that read nothing leave it", x.size(), 20);
    }

    private static void noText() {
        for (Reading r : READINGS) {
            faulty(r.name + " of nothing", scene(r.text), x -> r.use.of(x, 0), FORM, 0);
            faulty(r.name + " of blanks", new Scene("   ", START), x -> r.use.of(x, 3), FORM, 3);
            faulty(r.name + " of ?", new Scene(" ?", START), x -> r.use.of(x, 2), FORM, 1);
            faulty(r.name + " and more", scene(r.text + " ;"), x -> r.use.of(x, r.text.length() + 2), FORM,
                r.text.length() + (r.name.equals("theory") ? 2 : 1));
        }
    }

    // ---- promises 5 and 6

    /** fault(): of the latest call that read a text; 0 without one. */
    private static void faultStays() {
        TenRules x = told(START);
        x.write(lay(x, "f f"));
        due("TYPE", x.fault(), TYPE);
        refused("2 reads nothing", x, x.write(1), 2);
        refused("1 reads nothing", x, x.term(0, 9), 1);
        refused("1 reads nothing", x, x.inst(0, 9, 0), 1);
        refused("5, of no text", x, x.trans(0, 2), 5);
        x.about(0);
        x.sym(0);
        x.fresh();
        x.feed(0, 0, 0, 0, 0);
        due("none of them read a text", x.fault(), TYPE);
        x.write(5);
        due("another one", x.fault(), FORM);
        x = told(START);
        x.write(lay(x, "k"));
        due("NAME", x.fault(), NAME);
        refused("5 behind a good text", x, x.assume(lay(x, "x")), 5);
        due("no FAULT", x.fault(), 0);
        x.write(lay(x, "k"));
        refused("3 behind a good text", x, x.convert(lay(x, "rep all;x")), 3);
        due("no FAULT", x.fault(), 0);
        x.write(lay(x, "k"));
        due("answered", x.write(lay(x, "x")), 1);
        due("no FAULT", x.fault(), 0);
    }

    /** where(): its place, if the latest call that may be refused was by 4; NONE else. */
    private static void placeGoes() {
        Call[] refusable = {x -> x.about(0), x -> x.about(9), x -> x.used(0), x -> x.used(-1),
            x -> x.theorem(0, 0), x -> x.theorem(9, 0), x -> x.same(0, 0), x -> x.better(0),
            x -> x.writeOf(0, NONE), x -> x.writeSide(0, 0), x -> x.octet(0), x -> x.octet(-1),
            x -> x.trans(0, 0), x -> x.trans(0, 1), x -> x.sym(0), x -> x.unfold(0), x -> x.write(99),
            x -> x.write(lay(x, "x"))};
        for (int i = 0; i < refusable.length; i++) {
            TenRules x = told(START);
            x.write(lay(x, "f f"));
            due("its place", x.where(), 2);
            refusable[i].on(x);
            due("gone by call " + i, x.where(), NONE);
        }
        TenRules x = told(START);
        x.write(lay(x, "f f"));
        x.feed(0, 0, 0, 0, 0);
        x.size();
        x.fault();
        x.trouble();
        x.fresh();
        due("named may not be refused", throwsNoSuch(x, 1));
        due("its place still", x.where(), 2);
        due("TROUBLE still", x.trouble(), 4);
        x.theory(0);
        due("another place", x.where(), 0);
    }

    // ---- promise 36

    private static void troubleStays() {
        for (int trouble : new int[] {0, 1, 2, 3, 4, 5}) {
            TenRules x = told(START);
            switch (trouble) {
                case 1 -> x.about(9);
                case 2 -> x.write(1);
                case 3 -> x.convert(lay(x, "rep all;x"));
                case 4 -> x.write(lay(x, "?"));
                case 5 -> x.trans(0, 1);
                default -> x.about(0);
            }
            due("TROUBLE", x.trouble(), trouble);
            for (int i = 0; i < 21; i++) {
                x.feed(0, 0, 0, 0, 0);
            }
            x.size();
            x.fault();
            x.where();
            throwsNoSuch(x, 9);
            x.trouble();
            x.fresh();
            due("TROUBLE still", x.trouble(), trouble);
            due("none now", x.about(0), 0);
            due("TROUBLE 0", x.trouble(), 0);
        }
    }

    // ---- promise 4

    private static void fresh() {
        TenRules x = told(START);
        x.write(lay(x, "f x"));
        lay(x, "t");
        due("named", x.named(1), 0);
        due("how many there were", x.fresh(), 4);
        due("and now", x.fresh(), 0);
        due("not named", throwsNoSuch(x, 1));
        due("what was written stays", x.about(5), 5);
        due("what was written stays", last(x), "(f x)");
        for (int what = 0; what < 5; what++) {
            due("gone: about " + what, x.about(what), 0);
        }
        for (int rule = 0; rule < 10; rule++) {
            due("gone: used " + rule, x.used(rule), 0);
        }
        refused("gone: theorem", x, x.theorem(0, 0), 1);
        refused("gone: var", x, x.abs(0, 0), 1);
        x.write(0);
        refused("gone: x", x, x.write(lay(x, "x")), 4);
        due("NAME", x.fault(), NAME);
        due("told again", x.theory(lay(x, START)), 4);
        x.write(lay(x, "f x"));
        TenRules y = told(START);
        y.write(lay(y, "f x"));
        due("as if new", state(x), state(y));
        x = told(theorems(60));
        due("sixty", x.fresh(), 60);
        due("room again", x.theory(lay(x, "var x:i;thm a refl x")), 1);
    }

    // ---- promises 7 and 8

    private static void about() {
        int[] want = {3, 3, 4, 1, 3, 0};
        for (int what = 0; what <= 5; what++) {
            int number = what;
            answers("about " + what, scene(null), x -> x.about(number), want[what]);
        }
        for (int what : new int[] {6, 7, -1, Integer.MIN_VALUE, Integer.MAX_VALUE}) {
            refuses("about " + what, scene(null), x -> x.about(what), 1);
        }
        TenRules x = told(START);
        x.write(lay(x, "g x c"));
        due("written last", x.about(5), 9);
        x.writeType(lay(x, "g"));
        due("written last", x.about(5), 9);
        x.writeSide(0, 1);
        due("written last", x.about(5), 1);
        x.write(lay(x, "k"));
        due("refused", x.about(5), 1);
    }

    private static void used() {
        int[] want = {2, 0, 0, 0, 0, 1, 0, 0, 0, 0};
        for (int rule = 0; rule <= 9; rule++) {
            int number = rule;
            answers("used " + rule, scene(null), x -> x.used(number), want[rule]);
        }
        for (int rule : new int[] {10, -1, Integer.MIN_VALUE, Integer.MAX_VALUE}) {
            refuses("used " + rule, scene(null), x -> x.used(rule), 1);
        }
        TenRules x = told(START);
        x.convert(lay(x, "all then no;x"));
        x.convert(lay(x, "rep all;x"));
        x.theory(lay(x, "thm z refl x;thm y refl k"));
        x.beta(lay(x, "x"));
        x.comb(0, 0);
        due("of calls that weren't refused", x.about(4) * 100 + x.used(0), 302);
        x.convert(lay(x, "(all then no)else all;x"));
        due("those in vain, too", x.about(4) * 100 + x.used(0), 504);
    }

    // ---- promises 9 to 11

    private static void theorem() {
        int[] want = {0, 5, 0, 1, 1, 0};
        for (int what = 0; what <= 5; what++) {
            int number = what;
            answers("theorem 0 " + what, scene(null), x -> x.theorem(0, number), want[what]);
        }
        int[] last = {0, 6, 10, 1, 0, 4};
        for (int what = 0; what <= 5; what++) {
            int number = what;
            answers("the last theorem " + what, scene(null), x -> x.theorem(3, number), last[what]);
        }
        for (int what : new int[] {6, -1, Integer.MIN_VALUE, Integer.MAX_VALUE}) {
            refuses("theorem 0 " + what, scene(null), x -> x.theorem(0, what), 1);
        }
        due("no EQUATION", told(START).theorem(1, 3), 0);
        String half = "var p:o;const m:o>o>o;thm a assume m p p;thm b refl m;thm e assume p=p";
        due("m p p is none", told(half).theorem(0, 3), 0);
        due("= applied twice is one", told(half).theorem(2, 3), 1);
        makers();
    }

    private static void makers() {
        TenRules x = told("var x:i;var p:o;const r:i>i;def d=\\a:i.a");
        Call[] calls = {y -> y.refl(lay(y, "x")), y -> y.trans(1, 1), y -> y.comb(0, 1), y -> y.abs(0, 1),
            y -> y.beta(lay(y, "(\\a:i.a)x")), y -> y.assume(lay(y, "p")),
            y -> y.eqmp(y.refl(lay(y, "p")), 6), y -> y.deduct(6, 6), y -> y.inst(1, 0, lay(y, "x")),
            y -> y.eta(lay(y, "\\a:i.r a")), y -> 0, y -> y.sym(1), y -> y.convert(lay(y, "all;x")),
            y -> y.rewrite(6, lay(y, "all")), y -> y.normal(lay(y, "x")), y -> y.decide(lay(y, "x=x")),
            y -> y.unfold(6), y -> y.convert(lay(y, "def;d"))};
        for (int i = 0; i < calls.length; i++) {
            int t = calls[i].on(x);
            due("made by " + i, x.theorem(t, 2), Math.min(i, 11));
        }
    }

    private static void same() {
        answers("same", scene(null), x -> x.same(0, 0), 1);
        answers("not same", scene(null), x -> x.same(0, 3), 0);
        answers("the last", scene(null), x -> x.same(3, 3), 1);
        TenRules x = told("var p:o;var q:o;thm a assume p;thm b assume q;thm e deduct a b;thm h eqmp e a;"
            + "thm j refl \\a:o.a;thm k refl \\b:o.b;thm l refl \\b:i.b");
        due("other HYPS", x.same(1, 3), 0);
        due("bound alike", x.same(4, 5), 1);
        due("bound by another TYPE", x.same(4, 6), 0);
        due("= of two TYPES", sameOfTwoTypes(x), 0);
    }

    /** Two THEOREMS that say = = =, WRITTEN alike, but of two TYPES. */
    private static int sameOfTwoTypes(TenRules x) {
        String conv = "left right(in eta then eta)then right(in eta then eta)";
        int i = x.rewrite(x.refl(lay(x, "\\a:i.\\b:i.a=b")), lay(x, conv));
        int o = x.rewrite(x.refl(lay(x, "\\a:o.\\b:o.a=b")), lay(x, conv));
        due("= = =", concl(x, i), "((= =) =)");
        due("= = =", concl(x, o), "((= =) =)");
        due("like itself", x.same(i, x.unfold(i)), 1);
        return x.same(i, o);
    }

    private static void better() {
        answers("itself", scene(null), x -> x.better(3), 3);
        TenRules x = told("var p:o;var q:o;thm a assume p;thm b assume q;thm e deduct a b;thm h eqmp e a;"
            + "thm j inst b q q");
        due("p, p=q: q", x.theorem(3, 0), 2);
        due("q by q is no better than q by p, p=q, unless q is among them", x.better(3), 1);
        due("the first of two like ones", x.better(4), 1);
        due("of fewer HYPS none", x.better(1), 1);
    }

    // ---- promises 12 to 17

    private static void term() {
        for (int what : new int[] {8, -1, Integer.MIN_VALUE, Integer.MAX_VALUE}) {
            refuses("term " + what, scene("f x"), x -> x.term(3, what), 1);
            refuses("term " + what + " ahead of 2", scene("f x"), x -> x.term(99, what), 1);
            refuses("term " + what + " ahead of 4", scene("f f"), x -> x.term(3, what), 1);
        }
        int[] want = {3, 0, 5, 0, 0, 0, 0, 0};
        for (int what = 0; what <= 7; what++) {
            int number = what;
            answers("term " + what, scene("f x"), x -> x.term(3, number), want[what]);
            refuses("term " + what + " of 21", scene("f x"), x -> x.term(21, number), 2);
            faulty("term " + what + " of f f", scene("f f"), x -> x.term(3, number), TYPE, 2);
        }
        answers("of TYPE o", scene("g x x"), x -> x.term(5, 4), 1);
        answers("of TYPE o", scene("p"), x -> x.term(1, 4), 1);
        answers("of another", scene("\\a:i.p"), x -> x.term(6, 4), 0);
        String deep = "\\a:i.".repeat(12) + "a";
        answers("twelve \\", scene(deep), x -> x.term(deep.length(), 1), 12);
        answers("none", scene("x"), x -> x.term(1, 1), 0);
        places("(\\a:i.a)((\\a:i.a)x)", 2, 0, 0);
        places("\\b:i.(\\a:i.a)b", 1, 0, 1);
        places("\\b:i.\\a:i.g b a", 0, 0, 1);
        places("\\b:i.\\a:i.g a b", 0, 0, 0);
        places("\\b:i.\\a:i.f b", 0, 0, 0);
        places("\\b:i.\\a:i.f a", 0, 0, 1);
        places("\\a:i.g a a", 0, 0, 0);
        places("\\a:i.a", 0, 0, 0);
        places("\\a:i.(\\b:i.g a)x a", 1, 0, 0);
        places("\\a:i.(\\b:i.f)a a", 1, 0, 0);
        places("d(d(c))", 0, 2, 0);
        places("\\a:i.d a", 0, 1, 1);
        places("c", 0, 0, 0);
        places("d", 0, 1, 0);
    }

    private static void places(String text, int beta, int def, int eta) {
        int n = text.length();
        answers("beta in " + text, scene(text), x -> x.term(n, 5), beta);
        answers("def in " + text, scene(text), x -> x.term(n, 6), def);
        answers("eta in " + text, scene(text), x -> x.term(n, 7), eta);
    }

    private static void write() {
        TenRules x = told(START);
        String[][] texts = {{"\\x:i.\\x:o.x", "\\i.\\o.1"}, {"(\\x:i.x)x", "(\\i.0 x)"},
            {"\\a:(i>i)>o.a(\\b:i.b)", "\\((i>i)>o).(0 \\i.1)"}, {"\\a:i.x=a", "\\i.((= x) 0)"}};
        for (String[] t : texts) {
            due(t[0], x.write(lay(x, t[0])), t[1].length());
            due(t[0], last(x), t[1]);
        }
        String deep = "\\a:i.\\b:i.\\c:i.\\e:i.\\h:i.\\j:i.\\k:i.\\l:i.\\m:i.\\n:i.\\q:i.\\s:i.";
        due("LEVEL 9", x.write(lay(x, deep + "n")), 37);
        due("LEVEL 10", x.write(lay(x, deep + "q")), 38);
        due("LEVEL 11", x.write(lay(x, deep + "s")), 38);
        due("LEVEL 11", last(x), "\\i.".repeat(12) + "11");
        due("a TYPE", x.writeType(lay(x, "\\a:i>i.\\b:o.g")), 21);
        due("a TYPE", last(x), "((i>i)>(o>(i>(i>o))))");
    }

    private static void writeOf() {
        answers("CONCL", scene(null), x -> x.writeOf(1, NONE), 1);
        answers("HYP 0", scene(null), x -> x.writeOf(1, 0), 1);
        for (int i : new int[] {1, -2, Integer.MIN_VALUE, Integer.MAX_VALUE}) {
            refuses("HYP " + i, scene(null), x -> x.writeOf(1, i), 1);
        }
        refuses("HYP 0 of none", scene(null), x -> x.writeOf(0, 0), 1);
        answers("CONCL of the last", scene(null), x -> x.writeOf(3, NONE), 12);
    }

    private static void writeSide() {
        answers("left", scene(null), x -> x.writeSide(3, 0), 1);
        answers("right", scene(null), x -> x.writeSide(3, 1), 4);
        for (int side : new int[] {2, -1, Integer.MIN_VALUE, Integer.MAX_VALUE}) {
            refuses("side " + side, scene(null), x -> x.writeSide(0, side), 1);
            refuses("side " + side + " ahead of 5", scene(null), x -> x.writeSide(1, side), 1);
        }
        refuses("no EQUATION", scene(null), x -> x.writeSide(1, 0), 5);
        refuses("no EQUATION", scene(null), x -> x.writeSide(1, 1), 5);
    }

    private static void octet() {
        TenRules x = told(START);
        due("nothing written", x.octet(0), -2);
        x.write(lay(x, "f x"));
        due("the first", x.octet(0), '(');
        due("the last", x.octet(4), ')');
        due("beyond", x.octet(5), -2);
        due("no trouble", x.trouble(), 0);
        due("far beyond", x.octet(Integer.MAX_VALUE), -2);
        x.write(lay(x, "x"));
        due("what was written ahead of it is gone", x.octet(1), -2);
        for (int k : new int[] {-1, -2, Integer.MIN_VALUE}) {
            refuses("octet " + k, scene(null), y -> y.octet(k), 1);
        }
    }

    // ---- 1: there is none such

    private static void noSuchTheorem() {
        List<Taking> takings = List.of((x, t) -> x.theorem(t, 0), (x, t) -> x.same(t, 0),
            (x, t) -> x.same(0, t), TenRules::better, (x, t) -> x.writeOf(t, NONE),
            (x, t) -> x.writeSide(t, 0), (x, t) -> x.trans(t, 0), (x, t) -> x.trans(0, t),
            (x, t) -> x.comb(t, 0), (x, t) -> x.comb(2, t), (x, t) -> x.abs(0, t), (x, t) -> x.eqmp(t, 1),
            (x, t) -> x.eqmp(0, t), (x, t) -> x.deduct(t, 0), (x, t) -> x.deduct(0, t), TenRules::sym,
            TenRules::unfold);
        for (int i = 0; i < takings.size(); i++) {
            Taking taking = takings.get(i);
            for (int t : new int[] {THEOREMS, THEOREMS + 1, 59, 60}) {
                refuses("call " + i + " of theorem " + t, scene(null), x -> taking.of(x, t), 1);
            }
            for (int t : NO_NUMBERS) {
                refuses("call " + i + " of theorem " + t, scene(null), x -> taking.of(x, t), 1);
            }
            TenRules x = told(START);
            taking.of(x, THEOREMS - 1);
            due("call " + i + " of the last theorem", x.trouble() != 1);
        }
        for (int v : new int[] {VARS, 9, 10, 11, -1, Integer.MIN_VALUE, Integer.MAX_VALUE}) {
            refuses("abs by VAR " + v, scene(null), x -> x.abs(v, 0), 1);
            refuses("inst of VAR " + v, scene("x"), x -> x.inst(0, v, 1), 1);
        }
        answers("abs by the last VAR", scene(null), x -> x.abs(VARS - 1, 0), 4);
        answers("inst of the last VAR", scene("f"), x -> x.inst(0, VARS - 1, 1), 4);
    }

    // ---- 5: a RULE can't be used

    private static void notSo() {
        String more = "thm a assume x=c;thm b assume c=x;thm e refl p;thm k assume f=f";
        String[] told = {START, more};
        Call[] calls = {x -> x.trans(4, 4), x -> x.trans(4, 0), x -> x.trans(1, 0), x -> x.trans(0, 1),
            x -> x.comb(0, 0), x -> x.comb(0, 2), x -> x.comb(2, 2), x -> x.comb(1, 0), x -> x.comb(2, 1),
            x -> x.comb(2, 6), x -> x.abs(0, 4), x -> x.abs(0, 1), x -> x.abs(2, 7), x -> x.eqmp(0, 0),
            x -> x.eqmp(1, 1), x -> x.eqmp(6, 0), x -> x.sym(1)};
        for (int i = 0; i < calls.length; i++) {
            refuses("not so: " + i, new Scene(null, told), calls[i], 5);
        }
        Call[] good = {x -> x.trans(4, 5), x -> x.trans(0, 4), x -> x.comb(2, 4), x -> x.abs(1, 4),
            x -> x.abs(0, 7), x -> x.eqmp(6, 1), x -> x.deduct(1, 1), x -> x.deduct(0, 3), x -> x.sym(4),
            x -> x.unfold(1)};
        for (int i = 0; i < good.length; i++) {
            answers("so: " + i, new Scene(null, told), good[i], 8);
        }
        String[] noBeta = {"x", "f x", "\\a:i.a", "f((\\a:i.a)x)", "d x", "(\\a:i.a)x=x"};
        for (String text : noBeta) {
            refuses("beta of " + text, scene(text), x -> x.beta(text.length()), 5);
        }
        String[] noEta = {"f", "\\a:i.a", "\\a:i.g a a", "\\a:i.f x", "\\a:i.f(f a)", "\\a:i.\\b:i.f b", "d",
            "(\\b:i.f)x"};
        for (String text : noEta) {
            refuses("eta of " + text, scene(text), x -> x.eta(text.length()), 5);
        }
        for (String text : new String[] {"x", "f", "\\a:o.a", "f x", "g x"}) {
            refuses("assume of " + text, scene(text), x -> x.assume(text.length()), 5);
        }
    }

    // ---- promises 26, 30 and 32: the order of refusals

    private static void inst() {
        refuses("1 ahead of 2", scene("x"), x -> x.inst(9, 0, 99), 1);
        refuses("1 ahead of 2", scene("x"), x -> x.inst(0, 9, -1), 1);
        refuses("1 ahead of 4", scene("x x"), x -> x.inst(0, 3, 3), 1);
        refuses("1 ahead of 5", scene("p"), x -> x.inst(4, 0, 1), 1);
        refuses("2 ahead of 5", scene("p"), x -> x.inst(0, 0, 21), 2);
        faulty("4 ahead of 5", scene("p p"), x -> x.inst(0, 0, 3), TYPE, 2);
        refuses("5", scene("p"), x -> x.inst(0, 0, 1), 5);
        refuses("5: f isn't of x's TYPE", scene("f"), x -> x.inst(0, 0, 1), 5);
        refuses("5: also of a VAR that isn't there", scene("x"), x -> x.inst(0, 1, 1), 5);
        answers("a VAR that isn't there", scene("p"), x -> x.inst(0, 1, 1), 4);
        answers("by itself", scene("x"), x -> x.inst(0, 0, 1), 4);
        String big = sized(60);
        refuses("5 ahead of 3", new Scene(big, SIZED + ";var p:o;thm t refl p;thm u refl x"),
            x -> x.inst(0, 1, big.length()), 5);
        refuses("3", new Scene(big, SIZED + ";var p:o;thm t refl p;thm u refl x"),
            x -> x.inst(1, 0, big.length()), 3);
    }

    private static void rewrite() {
        refuses("1 ahead of 2", scene("all"), x -> x.rewrite(4, 99), 1);
        refuses("1 ahead of 4", scene("?"), x -> x.rewrite(-1, 1), 1);
        refuses("2", scene("all"), x -> x.rewrite(0, 21), 2);
        faulty("4 ahead of 5", scene("no ?"), x -> x.rewrite(0, 4), FORM, 3);
        faulty("a TERM", scene("all;x"), x -> x.rewrite(0, 5), FORM, 3);
        refuses("5", scene("no"), x -> x.rewrite(0, 2), 5);
        refuses("3", scene("rep all"), x -> x.rewrite(0, 7), 3);
        answers("the last", scene("all"), x -> x.rewrite(3, 3), 4);
    }

    private static void decide() {
        refuses("2", scene("x=x"), x -> x.decide(21), 2);
        faulty("4", scene("x=p"), x -> x.decide(3), TYPE, 2);
        for (String text : new String[] {"x", "p", "f", "g x x", "\\a:i.a=a", "(\\a:i.a)x"}) {
            refuses("no EQUATION: " + text, scene(text), x -> x.decide(text.length()), 5);
        }
        for (String text : new String[] {"x=c", "f=d", "g x=g c", "(\\a:i.x)=(\\a:i.a)"}) {
            refuses("unlike ones: " + text, scene(text), x -> x.decide(text.length()), 5);
        }
        for (String text : new String[] {"x=x", "d x=x", "x=d x", "d=\\b:i.b", "(\\a:i.f(d a))=f",
            "(x=x)=(d x=x)"}) {
            TenRules x = answers(text, scene(text), y -> y.decide(text.length()), 4);
            due("no HYPS", x.theorem(4, 0), 0);
            String concl = concl(x, 4);
            x.write(lay(x, text));
            due("that EQUATION", concl, last(x));
        }
        String chain = "r(".repeat(11) + "r x" + ")".repeat(11);
        String like = chain + "=" + chain;
        refuses("3: sym()", new Scene(like, SIZED), x -> x.decide(like.length()), 3);
        String unlike = chain + "=r(" + chain + ")";
        refuses("5 ahead of sym()'s 3", new Scene(unlike, SIZED), x -> x.decide(unlike.length()), 5);
        String dear = "m(" + chain + ")(" + chain.substring(2, chain.length() - 1) + ")=x";
        refuses("NORMAL's 3", new Scene(dear, SIZED), x -> x.decide(dear.length()), 3);
        String second = "x=m(" + chain + ")(" + chain.substring(2, chain.length() - 1) + ")";
        refuses("the second NORMAL's 3", new Scene(second, SIZED), x -> x.decide(second.length()), 3);
    }

    // ---- 3: a 61st THEOREM, behind all other refusals

    private static void sixtyTheorems() {
        String[] full = theorems(60);
        List<Reading> makers = new ArrayList<>();
        makers.add(new Reading("refl", TenRules::refl, "x", 0));
        makers.add(new Reading("beta", TenRules::beta, "(\\a:i.a)x", 0));
        makers.add(new Reading("assume", TenRules::assume, "p", 0));
        makers.add(new Reading("inst", (x, n) -> x.inst(0, 0, n), "c", 0));
        makers.add(new Reading("eta", TenRules::eta, "\\a:i.(\\b:i.b)a", 0));
        makers.add(new Reading("convert", TenRules::convert, "all;x", 0));
        makers.add(new Reading("rewrite", (x, n) -> x.rewrite(0, n), "all", 0));
        makers.add(new Reading("normal", TenRules::normal, "x", 0));
        makers.add(new Reading("decide", TenRules::decide, "x=x", 0));
        for (Reading r : makers) {
            int n = r.text.length();
            answers(r.name + ": the 60th", new Scene(r.text, theorems(59)), x -> r.use.of(x, n), 59);
            refuses(r.name + ": the 61st", new Scene(r.text, full), x -> r.use.of(x, n), 3);
            refuses(r.name + ": 2 ahead of 3", new Scene(r.text, full), x -> r.use.of(x, 21), 2);
            faulty(r.name + ": 4 ahead of 3", new Scene("?", full), x -> r.use.of(x, 1), FORM, 0);
        }
        Call[] calls = {x -> x.trans(0, 0), x -> x.abs(0, 0), x -> x.deduct(0, 0), x -> x.sym(0),
            x -> x.unfold(0)};
        for (int i = 0; i < calls.length; i++) {
            answers("the 60th by " + i, new Scene(null, theorems(59)), calls[i], 59);
            refuses("the 61st by " + i, new Scene(null, full), calls[i], 3);
        }
        String[] withTwo = {full[0] + ";const r:i>i;thm h refl r;thm q refl x=x;thm w assume x=x", full[1],
            full[2], "thm tca refl x;thm tcb refl x;thm tcc refl x;thm tcd refl x;thm tce refl x;"
            + "thm tcf refl x;thm tcg refl x"};
        String[] less = {withTwo[0], withTwo[1], withTwo[2],
            withTwo[3].substring(0, withTwo[3].length() - 15)};
        answers("comb: the 60th", new Scene(null, less), x -> x.comb(0, 2), 59);
        refuses("comb: the 61st", new Scene(null, withTwo), x -> x.comb(0, 2), 3);
        answers("eqmp: the 60th", new Scene(null, less), x -> x.eqmp(1, 2), 59);
        refuses("eqmp: the 61st", new Scene(null, withTwo), x -> x.eqmp(1, 2), 3);
        notSoAheadOfNoRoom(full);
    }

    private static void notSoAheadOfNoRoom(String[] full) {
        refuses("trans: 1", new Scene(null, full), x -> x.trans(0, 60), 1);
        refuses("comb: 5", new Scene(null, full), x -> x.comb(0, 0), 5);
        refuses("eqmp: 5", new Scene(null, full), x -> x.eqmp(0, 0), 5);
        refuses("beta: 5", new Scene("x", full), x -> x.beta(1), 5);
        refuses("assume: 5", new Scene("x", full), x -> x.assume(1), 5);
        refuses("eta: 5", new Scene("x", full), x -> x.eta(1), 5);
        refuses("inst: 5", new Scene("p", full), x -> x.inst(0, 0, 1), 5);
        refuses("convert: 5", new Scene("no;x", full), x -> x.convert(4), 5);
        refuses("rewrite: 5", new Scene("no", full), x -> x.rewrite(0, 2), 5);
        refuses("decide: 5", new Scene("x", full), x -> x.decide(1), 5);
        refuses("decide: 5", new Scene("x=c", full), x -> x.decide(3), 5);
        TenRules x = told(full);
        due("what makes no THEOREM goes on", x.write(lay(x, "x")), 1);
        due("what makes no THEOREM goes on", x.theory(lay(x, "var z:i")), 60);
        due("what makes no THEOREM goes on", x.term(lay(x, "z"), 2), 4);
    }

    private static void orderOfRefusals() {
        refuses("abs: 1 ahead of 5", scene(null), x -> x.abs(3, 1), 1);
        refuses("abs: 1 ahead of 5", scene(null), x -> x.abs(0, 4), 1);
        refuses("trans: 1 ahead of 5", scene(null), x -> x.trans(1, 4), 1);
        refuses("comb: 1 ahead of 5", scene(null), x -> x.comb(1, 4), 1);
        refuses("eqmp: 1 ahead of 5", scene(null), x -> x.eqmp(1, 4), 1);
        String[] big = {SIZED + ";thm a refl" + sized(48), "thm b assume" + sized(46) + "=" + sized(46)};
        refuses("comb: 5 ahead of 3", new Scene(null, big), x -> x.comb(0, 1), 5);
        refuses("abs: 5 ahead of 3", new Scene(null, big), x -> x.abs(0, 1), 5);
        refuses("abs: 3", new Scene(null, big), x -> x.abs(0, 0), 3);
        refuses("trans: 5 ahead of 3", new Scene(null, big), x -> x.trans(0, 1), 5);
        refuses("eqmp: 5", new Scene(null, big), x -> x.eqmp(0, 1), 5);
        String text = "(\\a:i.x)" + sized(97);
        faulty("beta: 4 ahead of 3", new Scene(text + "x", SIZED), x -> x.beta(text.length() + 1), TYPE,
            text.length());
        refuses("beta: 3", new Scene(text, SIZED), x -> x.beta(text.length()), 3);
        faulty("convert: 4 ahead of 5", scene("no;k"), x -> x.convert(4), NAME, 3);
        faulty("convert: 4 ahead of 3", scene("rep all;x x"), x -> x.convert(11), TYPE, 10);
    }

    // ---- promise 34

    private static void named() {
        TenRules x = told("var x:i;const c:i;thm a refl x;def ab=c;thm abcdef refl c");
        x.refl(lay(x, "x"));
        String[] texts = {"a", " a", "a  ", "ab", "abcdef", "  abcdef   "};
        int[] due = {0, 0, 0, 1, 2, 2};
        for (int i = 0; i < texts.length; i++) {
            int n = lay(x, texts[i]);
            due("named " + texts[i], throwsNoSuch(x, n) ? NONE : x.named(n), due[i]);
            due("all of the tape", throwsNoSuch(x, 20) ? NONE : x.named(20), due[i]);
            due("none beyond it", throwsNoSuch(x, 21));
            due("which stays", x.size(), 20);
            x.write(0);
        }
        String[] none = {"", " ", "x", "c", "aa", "b", "abcde", "abcdefg", "a a", "a;", "?", "a?", "?a",
            "(a)", "A", "thm", "abc def", "ab c"};
        for (String text : none) {
            int n = lay(x, text);
            due("none is named " + text, throwsNoSuch(x, n));
            due("the tape stays", x.size(), (text.length() + 19) / 20 * 20);
            x.write(0);
        }
        lay(x, "abcdef");
        due("the first byte", x.named(1), 0);
        due("the first two", x.named(2), 1);
        due("the first three", throwsNoSuch(x, 3));
        for (int n : new int[] {-1, 0, 21, Integer.MIN_VALUE, Integer.MAX_VALUE}) {
            due("n " + n, throwsNoSuch(x, n));
        }
    }

    // ---- An object is used for at most 512 calls

    private static void many() {
        TenRules x = new TenRules();
        int calls = 0;
        while (calls < 512) {
            x.feed(0x76617220, 0x783a693b, 0x74686d20, 0x61207265, 0x666c2078);
            due("var x:i;thm a refl x", x.theory(20), 1);
            x.feed(0x78202020, 0x20202020, 0x20202020, 0x20202020, 0x20202020);
            due("refl x", x.refl(20), 1);
            due("trans", x.trans(0, 1), 2);
            due("sym", x.sym(2), 3);
            due("fresh", x.fresh(), 4);
            due("trouble", x.trouble(), 0);
            calls += 8;
        }
        for (int i = 0; i < 3000; i++) {
            x.feed(0x76617220, 0x783a693b, 0x74686d20, 0x61207265, 0x666c2078);
            x.theory(20);
            x.sym(0);
            x.unfold(0);
        }
        due("calls beyond 512 end, too", x.trouble() >= 0);
    }
}
