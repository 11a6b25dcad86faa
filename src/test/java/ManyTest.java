/**
 * 'Terms' I, 'MANY', sentence by sentence, and what 'Terms' IV says of SIZE and HYPS: up to each bound,
 * where a text or a call is still answered, and beyond it.
 */
public final class ManyTest extends Checks {
    private static final String START = "var x:i;var p:o;var f:i>i;thm t refl x";
    private static final String TEN_VARS =
        "var a:i;var b:i;var c:i;var d:i;var e:i;var f:i;var g:i;var h:i;var j:i;var k:i";
    private static final String TEN_CONSTS = TEN_VARS.replace("var", "const");

    /** A call that reads n bytes. */
    private interface Use {
        int of(TenRules x, int n);
    }

    public static void main(String[] args) {
        nestedInTerms();
        nestedInTypes();
        nestedTypesInLambdas();
        nestedInConvs();
        besideOneAnother();
        elevenVars();
        elevenConsts();
        sixtyOneTheorems();
        sizeOfReadTerms();
        sizeInLines();
        lettersOfTypes();
        sizeByRules();
        sizeOfHyps();
        sizeBySym();
        sizeOfDefs();
        nineHyps();
        hypsPutTogether();
        end();
    }

    /** The text has no FAULT, whatever the call may answer. */
    private static void reads(String text, Use use) {
        TenRules x = told(START);
        use.of(x, lay(x, text));
        due(text + ", trouble", x.trouble() != 4);
        due(text + ", fault", x.fault(), 0);
        due(text + ", tape", x.size(), 0);
    }

    // ---- a 13th bracket, \ .. within one another, at it

    private static void nestedInTerms() {
        for (int k = 0; k <= 12; k++) {
            String brackets = "(".repeat(k);
            String lambdas = "\\a:i.".repeat(12 - k);
            String close = ")".repeat(k);
            for (String open : new String[] {brackets + lambdas, lambdas + brackets}) {
                int n = open.length();
                String text = open + "x" + close;
                answers(text, new Scene(text, START), x -> x.term(text.length(), 1), 12 - k);
                for (String more : new String[] {"(x)", "\\b:i.x"}) {
                    String longer = open + more + close;
                    faulty(longer, new Scene(longer, START), x -> x.refl(longer.length()), MANY, n);
                    faulty("thm a refl " + longer, MANY, 11 + n, START);
                    faulty("def d= " + longer, MANY, 7 + n, START);
                }
            }
        }
        String cut = "(".repeat(13);
        faulty(cut, new Scene(cut, START), x -> x.refl(13), MANY, 12);
        faulty("thm a refl f" + " (".repeat(12) + " ?", FORM, 37, START);
        faulty("thm a refl f" + " (".repeat(13) + " ?", MANY, 37, START);
        faulty("thm a refl x = " + "(".repeat(13), MANY, 27, START);
    }

    private static void nestedInTypes() {
        for (String line : new String[] {"var z:", "const z:"}) {
            String open = line + "(".repeat(12);
            whole(open + "i" + ")".repeat(12), START);
            whole(open + "o)>i" + ")".repeat(11), START);
            whole(line + "(i)>".repeat(7) + "(i)", START);
            faulty(open + "(i)" + ")".repeat(12), MANY, open.length(), START);
            faulty(open + "(", MANY, open.length(), START);
            faulty(open + "i>(i)" + ")".repeat(12), MANY, open.length() + 2, START);
            faulty(open, FORM, open.length(), START);
        }
    }

    private static void nestedTypesInLambdas() {
        for (int around = 0; around < 12; around++) {
            String begin = "\\a:i.".repeat(around) + "\\a:";
            int left = 11 - around;
            String text = begin + "(".repeat(left) + "i" + ")".repeat(left) + ".a";
            reads(text, TenRules::write);
            String more = begin + "(".repeat(left + 1) + "i" + ")".repeat(left + 1) + ".a";
            faulty(more, new Scene(more, START), x -> x.write(more.length()), MANY, begin.length() + left);
        }
        String body = "\\a:" + "(".repeat(11) + "i" + ")".repeat(11) + "." + "(".repeat(11) + "a"
            + ")".repeat(11);
        reads(body, TenRules::write);
    }

    private static void nestedInConvs() {
        String[] kinds = {"(", "try ", "rep ", "left ", "right ", "in ", "once "};
        for (String outer : kinds) {
            String open = outer.repeat(12);
            String close = outer.equals("(") ? ")".repeat(12) : "";
            String text = open + "no" + close + ";x";
            reads(text, TenRules::convert);
            String other = open + "by t" + close + " then all else no;" + "(".repeat(12) + "x"
                + ")".repeat(12);
            reads(other, TenRules::convert);
            for (String inner : kinds) {
                String more = open + inner + "no" + (inner.equals("(") ? ")" : "") + close;
                int at = open.length();
                faulty(more, new Scene(more + ";x", START), x -> x.convert(more.length() + 2), MANY, at);
                faulty(more, new Scene(more, START), x -> x.rewrite(0, more.length()), MANY, at);
            }
        }
        String mixed = "try(rep(left(right(in(once(";
        faulty("the 13th of all", new Scene(mixed + "(", START), x -> x.convert(28), MANY, 27);
        faulty("the 12th of all", new Scene(mixed + "", START), x -> x.convert(27), FORM, 27);
    }

    private static void besideOneAnother() {
        String twelve = "(".repeat(12) + "x" + ")".repeat(12);
        reads("f " + twelve + "=" + twelve, TenRules::write);
        whole("thm a refl f " + twelve + ";thm b refl " + twelve, START);
        String lambdas = "(" + "\\a:i.".repeat(11) + "a)";
        reads(lambdas + "=" + lambdas, TenRules::write);
        String tries = "try ".repeat(12) + "no";
        reads(tries + " then " + tries + ";f x", TenRules::convert);
        String open = "(".repeat(12) + "all" + ")".repeat(12);
        reads(open + " else " + open + ";x", TenRules::convert);
        whole("var z:(((i)))>((o));var w:" + "(".repeat(12) + "i" + ")".repeat(12), START);
        faulty("behind a closed one", new Scene("((x)=(" + "(".repeat(11), START), x -> x.write(17), MANY,
            16);
    }

    // ---- an 11th VAR, CONST, a 61st THEOREM, at the LINE's first TOKEN (var, const, def, thm)

    private static void elevenVars() {
        due("ten", whole(TEN_VARS).about(0), 10);
        String nine = TEN_VARS.substring(0, TEN_VARS.length() - 8);
        due("the tenth", whole("var k:o", nine).about(0), 10);
        faulty(TEN_VARS + ";var l:i", MANY, 80);
        faulty("var k:i;var l:i", MANY, 8, nine);
        faulty("var l:i", MANY, 0, TEN_VARS);
        faulty("  var l:i", MANY, 2, TEN_VARS);
        for (String line : new String[] {"var", "var a:i", "var ?", "var in:i", "var l:i>i>i>i>i>i>i>i>i"}) {
            faulty(line, MANY, 0, TEN_VARS);
        }
        faulty("var a:i;var l:i", NAME, 4, nine);
        whole("const l:i;def m=l;thm n refl a", TEN_VARS);
        due("the tenth's bit", told(TEN_VARS, "thm n refl k").theorem(0, 4), 512);
        TenRules x = told(TEN_VARS);
        x.theory(lay(x, "var l:i"));
        x.fresh();
        due("room again", x.theory(lay(x, TEN_VARS)), 0);
    }

    private static void elevenConsts() {
        due("ten", whole(TEN_CONSTS).about(1), 10);
        String nine = TEN_CONSTS.substring(0, TEN_CONSTS.length() - 10);
        due("the tenth by def", whole("def k=a", nine).about(1), 10);
        faulty(TEN_CONSTS + ";const l:i", MANY, TEN_CONSTS.length() + 1);
        for (String line : new String[] {"const l:i", "def l=a", "const", "def", "def a=?", "const a:i",
            "def in=a", "def l=x"}) {
            faulty(line, MANY, 0, TEN_CONSTS);
            faulty(" " + line, MANY, 1, nine, "def k=a");
            faulty("const k:i;" + line, MANY, 10, nine);
            faulty("def k=b;" + line, MANY, 8, nine);
        }
        String defs = "const a:i;def b=a;def c=a;def d=a;def e=a;def f=a;def g=a;def h=a;def j=a;def k=a";
        due("nine by def", whole(defs).about(3), 9);
        faulty("def l=a", MANY, 0, defs);
        whole("var l:i;thm m refl l", TEN_CONSTS);
        due("the tenth's bit", told(TEN_CONSTS, "thm n refl k").theorem(0, 5), 512);
    }

    private static void sixtyOneTheorems() {
        String[] some = theorems(59);
        String[] all = theorems(60);
        due("the 60th by thm", whole("thm z refl x", some).about(2), 60);
        due("the 60th by def", whole("def z=c", some).about(2), 60);
        for (String line : new String[] {"thm y refl x", "def y=c", "thm", "def", "thm taa refl x",
            "thm y beta x", "thm y ?", "def y=x"}) {
            faulty(line, MANY, 0, all);
            faulty("  " + line, MANY, 2, all);
            faulty("thm z refl x;" + line, MANY, 13, some);
            faulty("def z=c;" + line, MANY, 8, some);
        }
        whole("var y:i;const d:i", all);
        TenRules x = told(all);
        due("the 60th's number", x.theorem(59, 1), 5);
        refused("there is no 61st", x, x.theorem(60, 1), 1);
        refused("nor by a call", x, x.refl(lay(x, "x")), 3);
        due("60 stay", x.about(2), 60);
    }

    // ---- a whole TERM of a SIZE above 100 .. asked as it ends, at its first TOKEN

    private static void sizeOfReadTerms() {
        String at = truth(100);
        String beyond = truth(101);
        String rest = ";var y:i;var q:o;thm a refl y";
        String told = SIZED + rest;
        int n = at.length();
        answers("term", new Scene(at, told), x -> x.term(n, 0), 100);
        answers("write", new Scene(at, told), x -> x.write(n), written(at).length());
        answers("writeType", new Scene(at, told), x -> x.writeType(n), 1);
        answers("assume", new Scene(at, told), x -> x.assume(n), 1);
        answers("inst", new Scene(at, told), x -> x.inst(0, 2, n), 1);
        refuses("refl", new Scene(at, told), x -> x.refl(n), 3);
        refuses("normal", new Scene(at, told), x -> x.normal(n), 3);
        refuses("beta", new Scene(at, told), x -> x.beta(n), 5);
        refuses("eta", new Scene(at, told), x -> x.eta(n), 5);
        refuses("decide", new Scene(at, told), x -> x.decide(n), 5);
        refuses("convert", new Scene("no;" + at, told), x -> x.convert(n + 3), 5);
        int m = beyond.length();
        Call[] calls = {x -> x.term(m, 0), x -> x.write(m), x -> x.writeType(m), x -> x.assume(m),
            x -> x.inst(0, 2, m), x -> x.refl(m), x -> x.normal(m), x -> x.beta(m), x -> x.eta(m),
            x -> x.decide(m)};
        for (int i = 0; i < calls.length; i++) {
            faulty("101: call " + i, new Scene(beyond, told), calls[i], MANY, 0);
        }
        faulty("convert", new Scene("no; " + beyond, told), x -> x.convert(m + 4), MANY, 4);
        faulty("blanks ahead", new Scene("   " + beyond, told), x -> x.write(m + 3), MANY, 3);
        faulty("a bracket ahead", new Scene(" (" + beyond + ")", told), x -> x.write(m + 3), MANY, 1);
        faulty("as it ends", new Scene(beyond + " ?", told), x -> x.write(m + 2), MANY, 0);
        faulty("ahead of its end", new Scene(beyond + " k", told), x -> x.write(m + 2), NAME, m + 1);
        faulty("ahead of its end", new Scene(beyond + " x", told), x -> x.write(m + 2), TYPE, m + 1);
        String left = "\\b:i.(\\b:i.b)" + sized(95);
        answers("ABS and LEVELS count", new Scene(left, told), x -> x.term(left.length(), 0), 99);
    }

    private static String written(String text) {
        TenRules x = told(SIZED);
        x.assume(lay(x, text));
        return concl(x, 0);
    }

    private static void sizeInLines() {
        String told = SIZED + ";var y:i;var q:o;thm a refl y";
        String at = truth(100);
        String beyond = truth(101);
        due("assume", whole("thm z assume " + at, told).theorem(1, 1), 100);
        whole("thm z inst a q " + at, told);
        due("def: the TERM's SIZE as any", whole("def z=\\x:i." + sized(99), told).theorem(1, 1), 104);
        faulty("thm z refl " + at, MANY, 6, told);
        faulty("thm z refl " + beyond, MANY, 11, told);
        faulty("thm z assume  " + beyond, MANY, 14, told);
        faulty("thm z beta " + at, RULE, 6, told);
        faulty("thm z beta " + beyond, MANY, 11, told);
        faulty("thm z eta " + at, RULE, 6, told);
        faulty("thm z eta " + beyond, MANY, 10, told);
        faulty("thm z inst a q " + beyond, MANY, 15, told);
        faulty("def z=\\x:i." + sized(100), MANY, 6, told);
        faulty("def z= \\x:i." + sized(100) + ";?", MANY, 7, told);
    }

    // ---- a whole TYPE of more than 8 letters, asked as it ends, at its first TOKEN

    private static void lettersOfTypes() {
        String[] eights = {"i>i>i>i>i>i>i>i", "((((((o>o)>o)>o)>o)>o)>o)>o", "(i>i>i>i)>(o>o>o>o)",
            "(i>o)>(i>o)>(i>o)>i>o", "(((o>i>o>i>o>i>o>i)))"};
        for (String eight : eights) {
            String[] nines = {"i>" + eight, "(" + eight + ")>o", "((" + eight + ")>i)"};
            for (String[] line : new String[][] {{"var z: ", ""}, {"const z: ", ""},
                {"thm z refl \\e: ", ".x"}, {"thm z refl \\e:i.\\b: ", ".e"}}) {
                whole(line[0] + eight + line[1], START);
                for (String nine : nines) {
                    faulty(line[0] + nine + line[1], MANY, line[0].length(), START);
                    faulty(line[0] + nine + " ?", MANY, line[0].length(), START);
                    faulty(line[0] + nine + ">", FORM, line[0].length() + nine.length() + 1, START);
                }
            }
        }
        answers("a TERM's own TYPE isn't asked", new Scene("\\a:i>i>i>i>i>i>i>i.a", START),
            x -> x.writeType(20), 4 * 16 - 3);
        String nine = "\\b:i.\\a:i>i>i>i>i>i>i>i>i.b";
        faulty(nine, new Scene(nine, START), x -> x.term(nine.length(), 0), MANY, 8);
    }

    // ---- what a RULE makes so .., at its NAME; SIZE of each CONCL that a RULE makes is 100 at most

    private static void made(String line, Scene scene, Call call, int size) {
        TenRules x = whole(line, scene.theories());
        int last = x.about(2) - 1;
        due(line + ", SIZE", x.theorem(last, 1), size);
        TenRules y = answers(line, scene, call, last);
        due(line + ", SIZE by call", y.theorem(last, 1), size);
    }

    private static void tooMuch(String line, Scene scene, Call call) {
        faulty(line, MANY, 6, scene.theories());
        refuses(line, scene, call, 3);
    }

    /** A RULE of a TERM, at the bound and beyond it. */
    private static void ofTerm(String rule, String at, int size, String beyond, Use use) {
        String line = "thm z " + rule + " ";
        made(line + at, new Scene(at, SIZED), x -> use.of(x, at.length()), size);
        tooMuch(line + beyond, new Scene(beyond, SIZED), x -> use.of(x, beyond.length()));
    }

    private static void sizeByRules() {
        ofTerm("refl", sized(48), 99, sized(49), TenRules::refl);
        ofTerm("beta", "(\\a:i.x)" + sized(93), 100, "(\\a:i.x)" + sized(94), TenRules::beta);
        ofTerm("eta", "\\a:i.m" + sized(45) + "a", 100, "\\a:i.m" + sized(46) + "a", TenRules::eta);
        String a = SIZED + ";thm a assume" + sized(48) + "=x";
        made("thm z trans a b", new Scene(null, a, "thm b assume x=" + sized(49)), x -> x.trans(0, 1), 100);
        tooMuch("thm z trans a b", new Scene(null, a, "thm b assume x=" + sized(50)), x -> x.trans(0, 1));
        a = SIZED + ";const s:i>i;thm a assume r=s";
        made("thm z comb a b", new Scene(null, a, "thm b assume" + sized(46) + "=" + sized(47)),
            x -> x.comb(0, 1), 100);
        tooMuch("thm z comb a b", new Scene(null, a, "thm b assume" + sized(47) + "=" + sized(47)),
            x -> x.comb(0, 1));
        made("thm z abs x a", new Scene(null, SIZED, "thm a beta(\\a:i.a)" + sized(46)), x -> x.abs(0, 0),
            100);
        tooMuch("thm z abs x a", new Scene(null, SIZED, "thm a refl" + sized(48)), x -> x.abs(0, 0));
        a = SIZED + ";thm a assume " + truth(48);
        made("thm z deduct a b", new Scene(null, a, "thm b assume " + truth(49)), x -> x.deduct(0, 1), 100);
        tooMuch("thm z deduct a b", new Scene(null, a, "thm b assume " + truth(50)), x -> x.deduct(0, 1));
        a = SIZED + ";var y:i;thm a beta(\\a:i.x)y";
        int n = sized(93).length();
        made("thm z inst a y" + sized(93), new Scene(sized(93), a), x -> x.inst(0, 1, n), 100);
        int m = sized(94).length();
        tooMuch("thm z inst a y" + sized(94), new Scene(sized(94), a), x -> x.inst(0, 1, m));
        String d = SIZED + ";const c:i;def d=" + truth(100).replace('x', 'c');
        made("thm z eqmp d a", new Scene(null, d, "thm a assume d"), x -> x.eqmp(0, 1), 100);
        made("thm z assume " + truth(100), new Scene(truth(100), SIZED), x -> x.assume(truth(100).length()),
            100);
    }

    // ---- SIZE of .. each HYP that a RULE makes .. is 100 at most

    private static void sizeOfHyps() {
        String told = SIZED + ";var y:i;var q:o;thm a assume q;thm b assume n y x;thm d deduct b a;"
            + "thm e eqmp d b";
        String at = sized(96);
        made("thm z inst e y" + at, new Scene(at, told), x -> x.inst(3, 1, at.length()), 1);
        TenRules x = whole("thm z inst e y" + at, told);
        due("a HYP of 100", x.writeOf(4, 0) > 0);
        due("two HYPS", x.theorem(4, 0), 2);
        String beyond = sized(97);
        tooMuch("thm z inst e y" + beyond, new Scene(beyond, told), y -> y.inst(3, 1, beyond.length()));
    }

    // ---- sym(): 9, three times the left side's SIZE and the right side's

    private static void sizeBySym() {
        int[][] fit = {{1, 88}, {29, 4}, {30, 1}, {10, 61}};
        for (int[] s : fit) {
            String line = ";thm a assume" + sized(s[0]) + "=" + sized(s[1]);
            TenRules x = answers("sym" + line, new Scene(null, SIZED + line), y -> y.sym(0), 1);
            due("its SIZE", x.theorem(1, 1), 3 + s[0] + s[1]);
            String more = ";thm a assume" + sized(s[0]) + "=" + sized(s[1] + (s[1] == 1 ? 2 : 1));
            refuses("sym" + more, new Scene(null, SIZED + more), y -> y.sym(0), 3);
        }
    }

    // ---- SIZE of a def's THEOREM isn't asked

    private static void sizeOfDefs() {
        for (int size : new int[] {96, 97, 100}) {
            String def = "def d=\\x:i." + sized(size - 1);
            TenRules x = whole(def, SIZED);
            due("SIZE", x.theorem(0, 1), size + 4);
            due("by conv", x.convert(lay(x, "def;d")), 1);
            due("SIZE by conv", x.theorem(1, 1), size + 4);
            due("by d", x.convert(lay(x, "by d;d")), 2);
            due("try def", x.convert(lay(x, "try def;d")), 3);
            refused("but a RULE's", x, x.convert(lay(x, "left def;d x")), 3);
            int n = x.inst(0, 0, lay(x, "x"));
            due("inst of it", n, size == 96 ? 4 : NONE);
            due("inst of it", x.trouble(), size == 96 ? 0 : 3);
            due("nothing is counted", x.about(4), size == 96 ? 1 : 0);
        }
    }

    // ---- HYPS above 8

    private static final String CHAIN = "thm ta assume a=b;thm tb assume b=c;thm tc assume c=d;"
        + "thm td assume d=e;thm te assume e=f;thm tf assume f=g;thm tg assume g=h;thm th assume h=j;"
        + "thm ti assume j=k";
    private static final String JOINED = "thm ub trans ta tb;thm uc trans ub tc;thm ud trans uc td;"
        + "thm ue trans ud te;thm uf trans ue tf;thm ug trans uf tg";
    private static final String EIGHT = "thm uh trans ug th";
    private static final String MORE =
        "const q:o;const r:i>i;const s:i>i;thm v assume(a=h)=q;thm w assume(a=j)=q;thm rs assume r=s;"
        + "thm qq assume q;thm aj assume a=j";

    /** Numbers of CHAIN: 0 to 8, JOINED: 9 to 14, EIGHT: 15, MORE: 16 to 20. */
    private static void nineHyps() {
        String[] told = {TEN_VARS, CHAIN, JOINED, EIGHT, MORE};
        Scene all = new Scene(null, told);
        due("eight", whole(EIGHT, TEN_VARS, CHAIN, JOINED).theorem(15, 0), 8);
        String[] lines = {"thm z trans ug th", "thm z comb rs ug", "thm z eqmp v ug", "thm z deduct ug qq",
            "thm z deduct qq ug", "thm z deduct uh aj", "thm z deduct uh uh"};
        Call[] calls = {x -> x.trans(14, 7), x -> x.comb(18, 14), x -> x.eqmp(16, 14),
            x -> x.deduct(14, 19), x -> x.deduct(19, 14), x -> x.deduct(15, 20), x -> x.deduct(15, 15)};
        for (int i = 0; i < lines.length; i++) {
            TenRules x = whole(lines[i], told);
            due(lines[i], x.theorem(21, 0), 8);
            due(lines[i], answers(lines[i], all, calls[i], 21).theorem(21, 0), 8);
        }
        String[] beyond = {"thm z trans uh ti", "thm z comb rs uh", "thm z eqmp w uh", "thm z deduct uh qq",
            "thm z deduct qq uh"};
        Call[] nine = {x -> x.trans(15, 8), x -> x.comb(18, 15), x -> x.eqmp(17, 15),
            x -> x.deduct(15, 19), x -> x.deduct(19, 15)};
        for (int i = 0; i < beyond.length; i++) {
            tooMuch(beyond[i], all, nine[i]);
        }
        TenRules x = told(told);
        due("sym keeps eight", x.sym(15), 21);
        due("eight", x.theorem(21, 0), 8);
        due("inst keeps eight", x.inst(15, 9, lay(x, "a")), 22);
        due("abs keeps eight", x.abs(9, 15), 23);
        due("eight", x.theorem(23, 0), 8);
    }

    // ---- HYPS of two are put together; like ones once

    private static void hypsPutTogether() {
        TenRules x = told(TEN_VARS, CHAIN, JOINED, EIGHT);
        due("inst makes two alike", x.inst(15, 1, lay(x, "a")), 16);
        due("a=a, a=c: eight still", x.theorem(16, 0), 8);
        due("c by a", x.inst(16, 2, lay(x, "a")), 17);
        due("a=a twice", x.theorem(17, 0), 7);
        due("then there is room", x.trans(17, 8), 18);
        due("eight", x.theorem(18, 0), 8);
        for (int i = 0; i < 8; i++) {
            due("in order", i == 0 || hyp(x, 18, i - 1).compareTo(hyp(x, 18, i)) < 0);
        }
        refused("no ninth HYP", x, x.writeOf(18, 8), 1);
    }
}
