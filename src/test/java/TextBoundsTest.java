/**
 * 'Terms' I, sentence by sentence: THE TAPE, TOKENS, what goes on behind what, FAULTS, their places and
 * their order. What is many is in ManyTest.
 */
public final class TextBoundsTest extends Checks {
    private static final String START = "var x:i;var y:i;var p:o;var f:i>i;const c:i;const g:i>i>o;"
        + "thm t refl x;thm h refl f;thm q refl x=x;thm u assume x=y;def d=\\a:i.a";
    private static final String[] WORDS = {"var", "const", "def", "thm", "refl", "trans", "comb", "abs",
        "beta", "assume", "eqmp", "deduct", "inst", "eta", "all", "no", "by", "try", "rep", "left",
        "right", "in", "once", "then", "else"};

    public static void main(String[] args) {
        tapeIsFull();
        tapeIsReadToItsEnd();
        highestByteFirst();
        blanks();
        lettersOfNames();
        namesAlikeAtTheBegin();
        signsAndOtherBytes();
        wordsAreNoNames();
        whatGoesOn();
        whatGoesOnInConvs();
        endsPlace();
        toldAgain();
        notTold();
        piecesThatDontFit();
        sidesThatDontFit();
        termsOfAnotherType();
        rulesThatCantBeUsed();
        firstFromTheLeft();
        leastNumberOfOnePlace();
        whollyOrNotAtAll();
        end();
    }

    private static void wrongLine(String line, int fault, int place) {
        faulty(line, fault, place, START);
    }

    private static int feedBlanks(TenRules x) {
        return x.feed(0x20202020, 0x20202020, 0x20202020, 0x20202020, 0x20202020);
    }

    // ---- THE TAPE (400 bytes; promise 2: NONE, and none comes, if there would be more than 400)

    private static void tapeIsFull() {
        TenRules x = told("var x:i");
        x.about(6);
        for (int i = 1; i <= 20; i++) {
            due("feed " + i, feedBlanks(x), 20 * i);
            due("size " + i, x.size(), 20 * i);
        }
        for (int i = 0; i < 3; i++) {
            due("a 21st feed", x.feed(0x3f3f3f3f, 0x3f3f3f3f, 0, -1, 0x3f3f3f3f), NONE);
            due("none comes", x.size(), 400);
        }
        due("feed is no call of which a number is told", x.trouble(), 1);
        refused("401 bytes", x, x.write(401), 2);
        due("the tape stays full", feedBlanks(x), NONE);
        refused("400 blanks", x, x.write(400), 4);
        due("their end", x.fault() * 1000 + x.where(), 1400);
        due("room again", feedBlanks(x), 20);
        due("what was refused isn't there", lay(x, "var z:i") + x.theory(27), 7);
    }

    private static void tapeIsReadToItsEnd() {
        String line = "thm a refl x";
        String full = " ".repeat(400 - line.length()) + line;
        TenRules x = told("var x:i");
        lay(x, full);
        due("380 bytes and 20 more", x.size(), 400);
        due("a THEORY of 400 bytes", x.theory(400), 1);
        lay(x, full.substring(0, 392) + "b refl ?");
        refused("the 400th byte", x, x.theory(400), 4);
        due("its place", x.fault() * 1000 + x.where(), 1399);
        lay(x, " ".repeat(399) + "x?");
        due("the last byte alone", x.refl(400), 1);
        lay(x, " ".repeat(399) + "a");
        due("named in the last byte", x.named(400), 0);
        due("not ahead of it", throwsNoSuch(x, 399));
        due("nor beyond", throwsNoSuch(x, 401));
        due("the tape stays", x.size(), 400);
    }

    private static void highestByteFirst() {
        for (int at = 0; at < 20; at++) {
            for (int value : new int[] {0, 127, 128, 255, 'x'}) {
                int[] n = {0x20202020, 0x20202020, 0x20202020, 0x20202020, 0x20202020};
                int shift = 24 - 8 * (at % 4);
                n[at / 4] = n[at / 4] & ~(255 << shift) | value << shift;
                TenRules x = told("var x:i");
                due("feed", x.feed(n[0], n[1], n[2], n[3], n[4]), 20);
                if (value == 'x') {
                    due("up to the byte", x.write(at + 1), 1);
                } else {
                    refused("byte " + value, x, x.write(20), 4);
                    due("byte " + value, x.fault() * 1000 + x.where(), 1000 + at);
                }
            }
        }
    }

    // ---- blanks, 32, part TOKENS and mean nothing else

    private static void blanks() {
        whole("   thm   a   refl  f   (  f  x  )   =   x   ", START);
        whole("thm a refl f(f x)=x", START);
        whole("thm a refl\\e:i>o.e x;var z:(i)>o", START);
        answers("f x", new Scene("f x", START), x -> x.write(3), 5);
        faulty("fx", new Scene("fx", START), x -> x.write(2), NAME, 0);
        wrongLine("va r z:i", FORM, 0);
        wrongLine("thm a re fl x", FORM, 6);
        for (int sign : new int[] {0, 9, 10, 11, 12, 13, 31, 33, 160}) {
            wrongLine("var z:i" + (char) sign, FORM, 7);
            wrongLine("var" + (char) sign + "z:i", FORM, 3);
        }
    }

    // ---- NAMES of 1 to 6 small letters that stand together

    private static void lettersOfNames() {
        String letters = "zyxwvutsrqponm";
        for (int length = 1; length <= 14; length++) {
            String name = letters.substring(0, length);
            String[] lines = {"var " + name + ":i", "const " + name + ":i", "def " + name + "=c",
                "thm " + name + " refl c", "thm a refl \\" + name + ":i." + name};
            int[] places = {4, 6, 4, 4, 12};
            for (int i = 0; i < lines.length; i++) {
                if (length <= 6) {
                    whole(lines[i], "const c:i");
                } else {
                    faulty(lines[i], FORM, places[i], "const c:i");
                }
            }
        }
        String six = "var abcdef:i;thm fedcba refl abcdef";
        whole("thm a refl abcdef;thm b abs abcdef fedcba;thm e inst fedcba abcdef abcdef", six);
        answers("by six letters", new Scene("by fedcba;abcdef", six), x -> x.convert(16), 1);
        faulty("by seven", new Scene("by fedcbaa;abcdef", six), x -> x.convert(17), FORM, 3);
        faulty("thm a refl abcdefg", FORM, 11, six);
        faulty("thm a abs abcdefa fedcba", FORM, 10, six);
        faulty("thm a trans fedcba fedcbaa", FORM, 19, six);
        faulty("thm a refl \\abcdef:i.abcdefabcdef", FORM, 21, six);
        TenRules x = told(six);
        due("named by six", lay(x, "fedcba") + x.named(6), 6);
        x.write(0);
        due("seven name none", lay(x, "fedcbaa") == 7 && throwsNoSuch(x, 7));
    }

    private static void namesAlikeAtTheBegin() {
        TenRules x = told("var a:i;var aa:i;var aaa:i;var aaaa:i;var aaaaa:i;var aaaaaa:i",
            "const z:i;const zz:i;const zzz:i;const zzzz:i;const zzzzz:i;const zzzzzz:i");
        for (int length = 1; length <= 6; length++) {
            due("var " + length, x.term(lay(x, "a".repeat(length)), 2), 1 << length - 1);
            due("const " + length, x.term(lay(x, "z".repeat(length)), 3), 1 << length - 1);
            x.write(lay(x, "z".repeat(length)));
            due("written", last(x), "z".repeat(length));
            x.write(lay(x, "a".repeat(length)));
            due("written", last(x), "a".repeat(length));
        }
        for (String name : new String[] {"ab", "aaab", "aaaaab", "az", "b", "y", "zy", "zzzzzy"}) {
            faulty("thm q refl " + name, NAME, 11, "var a:i;var aa:i;var aaa:i;var aaaa:i;var aaaaa:i;"
                + "var aaaaaa:i;var z:i;var zz:i;var zzzzzz:i");
        }
    }

    // ---- single ones of ; : = > . ( ) \

    private static void signsAndOtherBytes() {
        for (char sign = 0; sign < 256; sign++) {
            boolean letter = sign >= 'a' && sign <= 'z';
            if (";:=>.()\\ ".indexOf(sign) < 0 && !letter) {
                wrongLine("var z:i " + sign, FORM, 8);
                wrongLine("thm a refl x" + sign, FORM, 12);
                wrongLine(sign + "var z:i", FORM, 0);
            }
            if (letter) {
                whole("var " + sign + ":o", "const zz:i");
            }
        }
        whole("var z:(i>o)>o;thm a refl(\\e:i>o.e)=(\\e:i>o.e)", START);
        wrongLine("thm a refl x==x", FORM, 13);
        wrongLine("var z::i", FORM, 6);
        wrongLine("var z:i>>i", FORM, 8);
        wrongLine("thm a refl \\e:i..e", FORM, 16);
        wrongLine("thm a refl \\\\e:i.e", FORM, 12);
    }

    // ---- the words of I (var, .., eta) and those of IV are no NAMES

    private static void wordsAreNoNames() {
        for (String word : WORDS) {
            wrongLine("var " + word + ":i", FORM, 4);
            wrongLine("const " + word + ":i", FORM, 6);
            wrongLine("def " + word + "=c", FORM, 4);
            wrongLine("thm " + word + " refl c", FORM, 4);
            wrongLine("thm a refl \\" + word + ":i.x", FORM, 12);
            wrongLine("thm a refl " + word, FORM, 11);
            wrongLine("thm a refl f " + word, FORM, 13);
            wrongLine("thm a trans " + word + " t", FORM, 12);
            wrongLine("thm a trans t " + word, FORM, 14);
            wrongLine("thm a abs " + word + " t", FORM, 10);
            TenRules x = told(START);
            lay(x, word);
            due(word + " names none", throwsNoSuch(x, word.length()));
            String longer = word.length() < 6 ? word + "s" : "x" + word.substring(1);
            whole("var " + longer + ":i;thm z refl " + longer, "const cc:i");
            whole("const " + word.substring(1) + "x:i", "const cc:i");
        }
        whole("var o:o;var i:i;thm a refl \\o:i.\\i:o.o=o", "const cc:i");
    }

    // ---- FORM: a TOKEN with which none goes on

    /** How a text is read. */
    private interface Reader {
        int read(TenRules x, int n);
    }

    /** Behind the begin each TOKEN of those told goes on; each other one is a FAULT at its place. */
    private static void goesOn(Reader reader, String begin, String those) {
        String all = " " + those + " ";
        for (String token : tokens()) {
            String text = begin.isEmpty() ? token : begin + " " + token;
            TenRules x = told(START);
            int got = reader.read(x, lay(x, text));
            judge(text, x, got, text.length() - token.length(), all.contains(" " + token + " "));
        }
    }

    private static void lineGoesOn(String begin, String those) {
        goesOn(TenRules::theory, begin, those);
    }

    private static void convGoesOn(String begin, String those) {
        goesOn(TenRules::convert, begin, those);
        goesOn((x, n) -> x.rewrite(0, n), begin, those.replace(" ;", ""));
    }

    private static void judge(String text, TenRules x, int got, int place, boolean goes) {
        boolean met = got == NONE && x.fault() == FORM && x.where() == place;
        due(text + (goes ? " goes on" : " does not go on"), met != goes);
    }

    private static String[] tokens() {
        String[] others = {";", ":", "=", ">", ".", "(", ")", "\\", "x", "o", "?", "abcdefg"};
        String[] all = new String[WORDS.length + others.length];
        System.arraycopy(WORDS, 0, all, 0, WORDS.length);
        System.arraycopy(others, 0, all, WORDS.length, others.length);
        return all;
    }

    private static void whatGoesOn() {
        String piece = "x o ( \\";
        lineGoesOn("", "var const def thm");
        lineGoesOn("var z:i;", "var const def thm");
        for (String line : new String[] {"var", "const", "def", "thm"}) {
            lineGoesOn(line, "x o");
        }
        for (String line : new String[] {"var z", "const z", "thm a refl \\ a"}) {
            lineGoesOn(line, ":");
            lineGoesOn(line + " :", "o i (");
            lineGoesOn(line + " : i >", "o i (");
            lineGoesOn(line + " : (", "o i (");
            lineGoesOn(line + " : ( i", "> )");
            lineGoesOn(line + " : ( i > o", "> )");
        }
        lineGoesOn("var z : i", "> ;");
        lineGoesOn("const z : ( i )", "> ;");
        lineGoesOn("def z", "=");
        lineGoesOn("def z =", piece);
        lineGoesOn("def z = d", piece + " = ;");
        lineGoesOn("thm a", "refl trans comb abs beta assume eqmp deduct inst eta");
        for (String rule : new String[] {"refl", "beta", "assume", "eta", "inst t x"}) {
            lineGoesOn("thm a " + rule, piece);
        }
        for (String rule : new String[] {"trans", "comb", "abs", "eqmp", "deduct", "inst", "trans t",
            "comb h", "abs x", "eqmp q", "deduct t", "inst t"}) {
            lineGoesOn("thm a " + rule, "x o");
        }
        for (String rule : new String[] {"trans t t", "comb h t", "abs x t", "eqmp q t", "deduct t t"}) {
            lineGoesOn("thm a " + rule, ";");
        }
        for (String rule : new String[] {"refl f", "beta ( \\ a : i . a ) x", "eta \\ a : i . f a",
            "inst t x y", "refl ( x )", "refl \\ a : i . a = a", "refl \\ a : i . a"}) {
            lineGoesOn("thm a " + rule, piece + " = ;");
        }
        lineGoesOn("thm a refl x =", piece);
        lineGoesOn("thm a refl x = x", piece + " ;");
        lineGoesOn("thm a refl (", piece);
        lineGoesOn("thm a refl ( x", piece + " = )");
        lineGoesOn("thm a refl ( x =", piece);
        lineGoesOn("thm a refl ( x = x", piece + " )");
        lineGoesOn("thm a refl ( \\ a : i . a = a", piece + " = )");
        lineGoesOn("thm a refl \\", "x o");
        lineGoesOn("thm a refl \\ a : i", "> .");
        lineGoesOn("thm a refl \\ a : ( i )", "> .");
        lineGoesOn("thm a refl \\ a : i .", piece);
    }

    private static void whatGoesOnInConvs() {
        String first = "all no beta eta def by try rep left right in once (";
        convGoesOn("", first);
        for (String word : new String[] {"try", "rep", "left", "right", "in", "once", "(", "all then",
            "all else", "( all then", "try all else", "( ("}) {
            convGoesOn(word, first);
        }
        for (String step : new String[] {"all", "no", "beta", "eta", "def", "by t", "try all", "( all )",
            "all then no", "all else no", "rep ( no )"}) {
            convGoesOn(step, "then else ;");
            convGoesOn("( " + step, "then else )");
        }
        convGoesOn("by", "x o");
        convGoesOn("( by", "x o");
        goesOn(TenRules::convert, "all ;", "x o ( \\");
        goesOn(TenRules::convert, "all ; f x", "x o ( \\ =");
        goesOn(TenRules::convert, "all ; x = x", "x o ( \\");
        goesOn(TenRules::write, "", "x o ( \\");
        goesOn(TenRules::write, "f x", "x o ( \\ =");
        goesOn(TenRules::write, "x = x", "x o ( \\");
    }

    // ---- FORM (the end: its place)

    private static void endsPlace() {
        String[] begun = {"", "var", "var z", "var z :", "var z : i >", "var z : (", "var z : ( i",
            "var z : i ;", "const", "const z :", "def", "def z", "def z =", "thm", "thm a", "thm a refl",
            "thm a refl (", "thm a refl ( x", "thm a refl x =", "thm a refl ( x =", "thm a refl \\",
            "thm a refl \\ a", "thm a refl \\ a :", "thm a refl \\ a : i", "thm a refl \\ a : i .",
            "thm a trans", "thm a trans t", "thm a comb h", "thm a abs", "thm a abs x", "thm a beta",
            "thm a assume", "thm a eqmp q", "thm a deduct t", "thm a inst", "thm a inst t",
            "thm a inst t x", "thm a eta", "thm a refl x ;"};
        for (String text : begun) {
            wrongLine(text, FORM, text.length());
            wrongLine(text + "   ", FORM, text.length() + 3);
        }
        String[] convs = {"", "all", "all then", "all else", "by", "by t", "try", "rep", "left", "right",
            "in", "once", "(", "( all", "( all )", "all ;", "all ; (", "all ; x =", "all ; \\ a : i ."};
        for (String text : convs) {
            faulty(text, new Scene(text, START), x -> x.convert(text.length()), FORM, text.length());
            faulty(text + "  ", new Scene(text + "  ", START), x -> x.convert(text.length() + 2), FORM,
                text.length() + 2);
        }
        faulty("n of more", new Scene("f (x)", START), x -> x.refl(4), FORM, 4);
        answers("n of more", new Scene("f (x", START), x -> x.refl(1), 5);
    }

    // ---- NAME: one told again

    private static void toldAgain() {
        String[] lines = {"var k:i", "const k:i", "def k=c", "thm k refl c"};
        int[] places = {4, 6, 4, 4};
        for (int i = 0; i < 4; i++) {
            for (int j = 0; j < 4; j++) {
                faulty(lines[j], NAME, places[j], "const c:i;" + lines[i]);
                faulty(lines[i] + ";" + lines[j], NAME, lines[i].length() + 1 + places[j], "const c:i");
                TenRules x = told("const c:i");
                x.theory(lay(x, lines[i] + ";?"));
                due("free, as its THEORY was refused", x.theory(lay(x, lines[j])) >= 0);
                x.fresh();
                due("free behind fresh()", x.theory(lay(x, "const c:i;" + lines[j])) >= 0);
            }
        }
        whole("thm a refl \\x:i.\\t:i.\\c:o.\\x:o.x", START);
        whole("thm a refl \\a:i.a", START);
    }

    // ---- NAME: one that should be told and isn't; at it

    private static void notTold() {
        String[] terms = {"_", "f _", "( _ )", "x = _", "f x = _", "\\a:i._", "(\\a:i.a) _", "f (f _)",
            "(\\a:i.\\b:o.a)=_"};
        for (String term : terms) {
            int at = term.indexOf('_');
            for (String name : new String[] {"k", "t", "xx", "a"}) {
                boolean bound = name.equals("a") && term.equals("\\a:i._");
                String line = "thm z refl " + term.replace("_", name);
                if (bound) {
                    whole(line, START);
                } else {
                    wrongLine(line, NAME, 11 + at);
                }
            }
        }
        for (String name : new String[] {"k", "x", "c"}) {
            for (String rule : new String[] {"trans", "comb", "eqmp", "deduct"}) {
                wrongLine("thm z " + rule + " " + name + " t", NAME, 7 + rule.length());
                wrongLine("thm z " + rule + " t " + name, NAME, 9 + rule.length());
            }
            wrongLine("thm z abs x " + name, NAME, 12);
            wrongLine("thm z inst " + name + " x x", NAME, 11);
            faulty("by " + name, new Scene("by " + name, START), x -> x.rewrite(0, 4), NAME, 3);
        }
        for (String name : new String[] {"k", "c", "t", "d"}) {
            wrongLine("thm z abs " + name + " t", NAME, 10);
            wrongLine("thm z inst t " + name + " x", NAME, 13);
        }
        wrongLine("def z=z", NAME, 6);
        wrongLine("thm z trans z z", NAME, 12);
        wrongLine("thm z refl k;var k:i", NAME, 11);
        whole("thm z comb d t;def e=d;thm zz trans e d", START);
    }

    // ---- TYPE: the first TOKEN of the PIECE that doesn't fit the PIECES ahead of it

    private static void piecesThatDontFit() {
        wrongLine("thm a refl x x", TYPE, 13);
        wrongLine("thm a refl f p", TYPE, 13);
        wrongLine("thm a refl f f", TYPE, 13);
        wrongLine("thm a refl f x x", TYPE, 15);
        wrongLine("thm a refl g x p", TYPE, 15);
        wrongLine("thm a refl g x x x", TYPE, 17);
        wrongLine("thm a refl f (f)", TYPE, 13);
        wrongLine("thm a refl f  \\a:i.a", TYPE, 14);
        wrongLine("thm a refl f (x=x)", TYPE, 13);
        wrongLine("thm a refl (\\a:i.a) p", TYPE, 20);
        wrongLine("thm a refl \\a:i.a a", TYPE, 18);
        wrongLine("thm a refl \\a:o.f a", TYPE, 18);
        wrongLine("thm a refl (x=y) x", TYPE, 17);
        wrongLine("thm a refl g x y = x x", TYPE, 21);
        whole("thm a refl (\\e:i>o.e x)(g y)", START);
        whole("thm a refl g(f x)(f(f y))", START);
    }

    // ---- TYPE (behind = : the right side's first PIECE, if it is of another TYPE than the left side)

    private static void sidesThatDontFit() {
        wrongLine("thm a refl x = p", TYPE, 15);
        wrongLine("thm a refl p = x", TYPE, 15);
        wrongLine("thm a refl f = f x", TYPE, 15);
        wrongLine("thm a refl x =   g x y", TYPE, 17);
        wrongLine("thm a refl x = (p)", TYPE, 15);
        wrongLine("thm a refl (x = \\a:i.a)", TYPE, 16);
        wrongLine("thm a refl \\a:i.a = p", TYPE, 20);
        wrongLine("thm a refl (\\a:i.a)=\\a:o.a", TYPE, 20);
        wrongLine("thm a refl \\a:i.a=a=p", TYPE, 20);
        whole("thm a refl g x = g y", START);
        whole("thm a refl x = f y", START);
        whole("thm a refl f = \\a:i.f x", START);
        whole("thm a refl \\a:i.a=a=\\a:i.p", START);
    }

    // ---- TYPE: the first TOKEN of the TERM that should be of TYPE o (or closed, for def) and isn't

    private static void termsOfAnotherType() {
        wrongLine("thm a assume x", TYPE, 13);
        wrongLine("thm a assume   g x", TYPE, 15);
        wrongLine("thm a assume (f x)", TYPE, 13);
        wrongLine("thm a assume \\a:o.a", TYPE, 13);
        whole("thm a assume p;thm b assume x=x;thm e assume g x y", START);
        wrongLine("def e=x", TYPE, 6);
        wrongLine("def e=  (f)", TYPE, 8);
        wrongLine("def e=\\a:i.g a x", TYPE, 6);
        wrongLine("def e=c=x", TYPE, 6);
        whole("def e=\\x:i.\\f:i>i.f x", START);
        whole("def e=d;def k=c=c", START);
        whole("def e=\\a:i.\\x:i.g x a", START);
    }

    // ---- RULE: it can't be used so; at its NAME

    private static void rulesThatCantBeUsed() {
        wrongLine("thm a trans u u", RULE, 6);
        wrongLine("thm a trans u t", RULE, 6);
        whole("thm a trans t u", START);
        wrongLine("thm a   comb t t", RULE, 8);
        wrongLine("thm a comb t h", RULE, 6);
        wrongLine("thm a abs x u", RULE, 6);
        wrongLine("thm a abs y u", RULE, 6);
        whole("thm a abs p u", START);
        wrongLine("thm a beta x", RULE, 6);
        wrongLine("thm a beta f x", RULE, 6);
        wrongLine("thm a beta \\a:i.a", RULE, 6);
        wrongLine("thm a beta d x", RULE, 6);
        wrongLine("thm a beta f ((\\a:i.a) x)", RULE, 6);
        wrongLine("thm a eqmp t t", RULE, 6);
        wrongLine("thm a eqmp q u", RULE, 6);
        wrongLine("thm a eqmp ap ap", RULE, 6, "thm ap assume p");
        wrongLine("thm a trans ap ap", RULE, 6, "thm ap assume p");
        wrongLine("thm a trans t ap", RULE, 6, "thm ap assume p");
        wrongLine("thm a comb ap t", RULE, 6, "thm ap assume p");
        wrongLine("thm a comb h ap", RULE, 6, "thm ap assume p");
        wrongLine("thm a abs x ap", RULE, 6, "thm ap assume p");
        wrongLine("thm a inst t x p", RULE, 6);
        wrongLine("thm a inst t p x", RULE, 6);
        wrongLine("thm a eta f", RULE, 6);
        wrongLine("thm a eta \\a:i.a", RULE, 6);
        wrongLine("thm a eta \\a:i.x", RULE, 6);
        wrongLine("thm a eta \\a:i.f x", RULE, 6);
        wrongLine("thm a eta \\a:i.g a a", RULE, 6);
        wrongLine("thm a eta \\a:i.f (f a)", RULE, 6);
        wrongLine("thm a eta \\a:i.\\b:i.g a b", RULE, 6);
        wrongLine("thm a refl x;  thm b beta x", RULE, 21);
    }

    private static void wrongLine(String line, int fault, int place, String more) {
        faulty(line, fault, place, START, more);
    }

    // ---- a FAULT is the first that is met from the left

    private static void firstFromTheLeft() {
        wrongLine("thm a refl k ?", NAME, 11);
        wrongLine("thm a refl ? k", FORM, 11);
        wrongLine("thm a refl x (k", NAME, 14);
        wrongLine("thm a refl x (y y)", TYPE, 16);
        wrongLine("thm a refl x (y k)", NAME, 16);
        wrongLine("thm a refl x (y", FORM, 15);
        wrongLine("thm a refl x y ?", TYPE, 13);
        wrongLine("thm a refl x y k", TYPE, 13);
        wrongLine("thm a refl x = p k", NAME, 17);
        wrongLine("thm a refl x = p x", TYPE, 17);
        wrongLine("thm a refl x = g k", NAME, 17);
        wrongLine("thm a refl x = g x p", TYPE, 19);
        wrongLine("thm a refl x = p ?", TYPE, 15);
        wrongLine("thm a refl x = p = p", TYPE, 15);
        wrongLine("thm a assume x ?", TYPE, 13);
        wrongLine("thm a assume x)", TYPE, 13);
        wrongLine("thm a assume (x ?", FORM, 16);
        wrongLine("thm a assume f k", NAME, 15);
        wrongLine("thm a assume f p", TYPE, 15);
        wrongLine("def e=x ?", TYPE, 6);
        wrongLine("def e=x k", NAME, 8);
        wrongLine("thm a beta x ?", RULE, 6);
        wrongLine("thm a beta x)", RULE, 6);
        wrongLine("thm a beta x k", NAME, 13);
        wrongLine("thm a beta x x", TYPE, 13);
        wrongLine("thm a beta x;?", RULE, 6);
        wrongLine("thm a comb t t t", RULE, 6);
        wrongLine("thm a comb t k", NAME, 13);
        wrongLine("thm a comb t ?", FORM, 13);
        wrongLine("thm a inst t x p ?", RULE, 6);
        wrongLine("thm a inst k k k", NAME, 11);
        wrongLine("thm a inst t k k", NAME, 13);
        wrongLine("thm a inst t x k", NAME, 15);
        wrongLine("var x ?", NAME, 4);
        wrongLine("var x", NAME, 4);
        wrongLine("var ? x", FORM, 4);
        wrongLine("thm x nothing", NAME, 4);
        wrongLine("thm a refl x;var z:j;thm b beta x", FORM, 19);
        wrongLine("thm a beta x;var z:j", RULE, 6);
        faulty("by k", new Scene("by k then ?;x x", START), x -> x.convert(15), NAME, 3);
        faulty("then ?", new Scene("by t then ?;k", START), x -> x.convert(13), FORM, 10);
        faulty("k", new Scene("by t;x k", START), x -> x.convert(8), NAME, 7);
    }

    // ---- of one place the least number

    private static void leastNumberOfOnePlace() {
        String brackets = "(".repeat(12);
        wrongLine("var z:" + brackets + "i(", FORM, 19);
        wrongLine("var z" + brackets, FORM, 5);
        wrongLine("thm a refl " + brackets + ">", FORM, 23);
        wrongLine("thm a refl (((((((((((\\(", FORM, 23);
        faulty("( behind all", new Scene("try ".repeat(12) + "all (", START), x -> x.convert(53), FORM, 52);
        faulty("try behind all", new Scene("try ".repeat(12) + "all try", START), x -> x.convert(55),
            FORM, 52);
        String big = "\\b:i.\\b:i." + sized(99);
        faulty("thm a assume " + big, TYPE, 13, SIZED);
        faulty("def d=" + big, TYPE, 6, SIZED);
        faulty("def d=" + big.replace('x', 'b'), MANY, 6, SIZED);
        faulty("thm a assume " + truth(101), MANY, 13, SIZED);
        String more = ";var y:i;var p:o;thm t refl x;thm e refl y;thm w beta(\\a:i.x)" + sized(92);
        faulty("thm a inst t x n" + sized(40) + sized(50), RULE, 6, SIZED + more);
        faulty("thm a inst t x" + sized(49), MANY, 6, SIZED + more);
        faulty("thm a comb w w", RULE, 6, SIZED + more);
        faulty("thm a beta" + sized(60), RULE, 6, SIZED + more);
    }

    // ---- theories .. come wholly or not at all

    private static void whollyOrNotAtAll() {
        String good = "var z:i;const k:i;def e=\\a:i.k;thm a refl e z;thm b trans a a;";
        whole(good + "thm j refl z", START);
        int n = good.length();
        wrongLine(good, FORM, n);
        wrongLine(good + "?", FORM, n);
        wrongLine(good + "var z:i", NAME, n + 4);
        wrongLine(good + "thm j refl x x", TYPE, n + 13);
        wrongLine(good + "thm j beta z", RULE, n + 6);
        wrongLine(good + "var zz:i>i>i>i>i>i>i>i>i", MANY, n + 7);
        TenRules x = told(START);
        x.theory(lay(x, good + "?"));
        for (String name : new String[] {"z", "k", "e", "a"}) {
            refused("not told: " + name, x, x.write(lay(x, name)), 4);
            due("not told: " + name, x.fault(), NAME);
        }
        lay(x, "a e");
        due("nor named", throwsNoSuch(x, 1) && throwsNoSuch(x, 3));
    }
}
