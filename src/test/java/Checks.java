import java.util.NoSuchElementException;

/** What the tests have in common: texts are fed, answers are compared, wrong ones are counted. */
abstract class Checks {
    static final int NONE = TenRules.NONE;
    static final int FORM = 1;
    static final int NAME = 2;
    static final int TYPE = 3;
    static final int RULE = 4;
    static final int MANY = 5;

    private static int asked;
    private static int wrong;

    /** A call of the class, its text lying on THE TAPE already. */
    interface Call {
        int on(TenRules x);
    }

    /** THEORIES told to a new object, and the text that lies on THE TAPE then; null if none is read. */
    record Scene(String text, String... theories) {
        TenRules make() {
            TenRules x = told(theories);
            lay(x, text == null ? "unread" : text);
            return x;
        }

        int n() {
            return text.length();
        }
    }

    static void due(String what, int got, int want) {
        asked++;
        if (got != want) {
            wrong++;
            System.out.println(what + ": answered " + got + ", due is " + want);
        }
    }

    static void due(String what, String got, String want) {
        asked++;
        if (!got.equals(want)) {
            wrong++;
            System.out.println(what + ": written " + got + ", due is " + want);
        }
    }

    static void due(String what, boolean got) {
        due(what, got ? 1 : 0, 1);
    }

    static void end() {
        System.out.println(asked + " asked, " + wrong + " wrong");
        if (wrong > 0) {
            System.exit(1);
        }
    }

    // ---- texts

    /** Feeds a text, filled up with blanks, and answers its length. */
    static int lay(TenRules x, String text) {
        String all = text + " ".repeat((20 - text.length() % 20) % 20);
        for (int i = 0; i < all.length(); i += 20) {
            int[] n = new int[5];
            for (int k = 0; k < 20; k++) {
                n[k / 4] = n[k / 4] << 8 | all.charAt(i + k);
            }
            x.feed(n[0], n[1], n[2], n[3], n[4]);
        }
        return text.length();
    }

    static TenRules told(String... theories) {
        TenRules x = new TenRules();
        for (String theory : theories) {
            tell(x, theory);
        }
        return x;
    }

    static int tell(TenRules x, String theory) {
        int count = x.theory(lay(x, theory));
        if (count == NONE) {
            due("refused: " + theory + " (" + x.fault() + " at " + x.where() + ")", false);
        }
        return count;
    }

    /** Such VARS and CONSTS as sized() and truth() are made of. */
    static final String SIZED = "var x:i;const r:i>i;const m:i>i>i;const n:i>i>o";

    /** A PIECE of TYPE i whose SIZE is 1, 3 or more. */
    static String sized(int size) {
        switch (size) {
            case 1:
                return " x";
            case 3:
                return "(r x)";
            case 4:
                return "((\\a:i.a)x)";
            case 6:
                return "(r" + sized(4) + ")";
            default:
                int left = (size - 3) / 2 == 2 ? 1 : (size - 3) / 2;
                return "(m" + sized(left) + sized(size - 3 - left) + ")";
        }
    }

    /** A TERM of TYPE o whose SIZE is 5 or more, but not 6. */
    static String truth(int size) {
        int left = (size - 3) / 2 == 2 ? 1 : (size - 3) / 2;
        return "n" + sized(left) + sized(size - 3 - left);
    }

    /** VARS x, p, a CONST c, and THEORIES with so many THEOREMS x = x, 75 at most. */
    static String[] theorems(int count) {
        String[] texts = {"var x:i;var p:o;const c:i", "", "", ""};
        for (int i = 0; i < count; i++) {
            String line = "thm t" + (char) ('a' + i / 26) + (char) ('a' + i % 26) + " refl x";
            int part = 1 + i / 25;
            texts[part] += (texts[part].isEmpty() ? "" : ";") + line;
        }
        return texts;
    }

    // ---- what is seen

    static String last(TenRules x) {
        StringBuilder s = new StringBuilder();
        int length = x.about(5);
        for (int k = 0; k < length; k++) {
            s.append((char) x.octet(k));
        }
        return s.toString();
    }

    static String concl(TenRules x, int t) {
        x.writeOf(t, NONE);
        return last(x);
    }

    static String hyp(TenRules x, int t, int i) {
        x.writeOf(t, i);
        return last(x);
    }

    static boolean throwsNoSuch(TenRules x, int n) {
        try {
            x.named(n);
            return false;
        } catch (NoSuchElementException e) {
            return true;
        }
    }

    /** All but THE TAPE, TROUBLE and FAULT: of many THEOREMS the last ones, of long texts the begin. */
    static String state(TenRules x) {
        StringBuilder s = new StringBuilder("about");
        for (int what = 0; what < 6; what++) {
            s.append(' ').append(x.about(what));
        }
        s.append(" used");
        for (int rule = 0; rule < 10; rule++) {
            s.append(' ').append(x.used(rule));
        }
        s.append(" written ").append(begin(x));
        int count = x.about(2);
        for (int t = 0; t < count; t++) {
            s.append(" theorem ").append(x.theorem(t, 1));
            if (t >= count - 3) {
                append(s, x, t);
            }
        }
        return s.toString();
    }

    private static void append(StringBuilder s, TenRules x, int t) {
        for (int what = 0; what < 6; what++) {
            s.append(' ').append(x.theorem(t, what));
        }
        for (int i = NONE; i < Math.min(x.theorem(t, 0), 2); i++) {
            s.append(' ').append(x.writeOf(t, i)).append(begin(x));
        }
    }

    private static String begin(TenRules x) {
        StringBuilder s = new StringBuilder();
        for (int k = 0; k < Math.min(x.about(5), 20); k++) {
            s.append((char) x.octet(k));
        }
        return s.toString();
    }

    // ---- answered or refused

    static void refused(String what, TenRules x, int got, int trouble) {
        due(what, got, NONE);
        due(what + ", trouble", x.trouble(), trouble);
        if (trouble != 4) {
            due(what + ", where", x.where(), NONE);
        }
    }

    /** The call is answered so, and no refusal is told. */
    static TenRules answers(String what, Scene scene, Call call, int want) {
        TenRules x = scene.make();
        int before = x.size();
        due(what, call.on(x), want);
        due(what + ", trouble", x.trouble(), 0);
        due(what + ", where", x.where(), NONE);
        due(what + ", fault", x.fault(), 0);
        due(what + ", tape", x.size(), scene.text == null ? before : 0);
        return x;
    }

    /** The call is refused by the number, empties THE TAPE if it read it, and changes nothing else. */
    static void refuses(String what, Scene scene, Call call, int trouble) {
        TenRules x = scene.make();
        int size = x.size();
        refused(what, x, call.on(x), trouble);
        if (trouble != 4) {
            due(what + ", fault", x.fault(), 0);
        }
        due(what + ", tape", x.size(), trouble < 3 || scene.text == null ? size : 0);
        due(what + ", state", state(x), state(scene.make()));
    }

    static void faulty(String what, Scene scene, Call call, int fault, int place) {
        TenRules x = scene.make();
        call.on(x);
        due(what + ", fault", x.fault(), fault);
        due(what + ", where", x.where(), place);
        refuses(what, scene, call, 4);
    }

    /** The THEORY, behind others, is whole. */
    static TenRules whole(String theory, String... others) {
        TenRules x = told(others);
        due(theory, x.theory(lay(x, theory)) >= 0);
        due(theory + ", trouble", x.trouble(), 0);
        due(theory + ", fault", x.fault() * 1000 + x.where(), NONE);
        return x;
    }

    static void faulty(String theory, int fault, int place, String... others) {
        faulty(theory, new Scene(theory, others), x -> x.theory(theory.length()), fault, place);
    }
}
