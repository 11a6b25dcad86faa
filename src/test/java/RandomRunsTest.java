import java.lang.reflect.InvocationTargetException;
import java.lang.reflect.Method;
import java.util.ArrayList;
import java.util.HashMap;
import java.util.LinkedHashMap;
import java.util.List;
import java.util.Map;
import java.util.NoSuchElementException;
import java.util.Random;

/**
 * Random runs of calls, answered by the class and by the Model: each answer must be the same, and
 * so must trouble, fault and place after each call, and all that is written. The seeds are fixed;
 * arguments: how many runs, and the first seed.
 */
public final class RandomRunsTest {
    private static final Map<String, Method> REAL = methods(TenRules.class);
    private static final Map<String, Method> OTHER = methods(Model.class);
    private static final String THROWN = "throws.NoSuchElementException";

    private final Random random;
    private final Texts texts;
    private final TenRules real = new TenRules();
    private final Model model = new Model();
    private final StringBuilder history = new StringBuilder();
    private boolean wrong;

    private RandomRunsTest(long seed) {
        random = new Random(seed);
        texts = new Texts(random, model);
    }

    public static void main(String[] args) {
        int runs = args.length > 0 ? Integer.parseInt(args[0]) : 1500;
        long first = args.length > 1 ? Long.parseLong(args[1]) : 1;
        int bad = 0;
        for (long seed = first; seed < first + runs && bad < 3; seed++) {
            RandomRunsTest run = new RandomRunsTest(seed);
            run.go();
            if (run.wrong) {
                bad++;
                System.out.println("seed " + seed + ":\n" + run.history);
            }
        }
        if (args.length > 2) {
            System.out.println(TALLY);
        }
        if (bad > 0) {
            System.exit(1);
        }
    }

    private static final Map<String, Integer> TALLY = new java.util.TreeMap<>();

    private static Map<String, Method> methods(Class<?> of) {
        Map<String, Method> found = new HashMap<>();
        for (Method m : of.getDeclaredMethods()) {
            if (java.lang.reflect.Modifier.isPublic(m.getModifiers())) {
                m.setAccessible(true);
                found.put(m.getName(), m);
            }
        }
        return found;
    }

    private static String answer(Method m, Object on, Object[] args) {
        try {
            return m.invoke(on, args).toString();
        } catch (InvocationTargetException e) {
            if (e.getCause() instanceof NoSuchElementException) {
                return THROWN;
            }
            e.getCause().printStackTrace(System.out);
            return e.getCause().toString();
        } catch (IllegalAccessException e) {
            return e.toString();
        }
    }

    private int ask(String name, Object... args) {
        String got = answer(REAL.get(name), real, args);
        String due = answer(OTHER.get(name), model, args);
        history.append(name).append(java.util.Arrays.toString(args)).append(" -> ").append(got);
        history.append('\n');
        if (!got.equals(due)) {
            history.append("due is ").append(due).append('\n');
            wrong = true;
        }
        return due.equals(THROWN) || due.contains("xception") || due.contains("Error") ? -9
            : Integer.parseInt(due);
    }

    private void call(String name, Object... args) {
        int got = ask(name, args);
        int trouble = ask("trouble");
        ask("fault");
        ask("where");
        TALLY.merge(name + " " + (got < 0 ? "refused " + trouble
            + (trouble == 4 ? "/" + model.fault() : "") : "ok"), 1, Integer::sum);
        if (got >= 0 && random.nextInt(3) == 0 && MAKERS.contains(name) && !wrong) {
            for (int i = -1; i < ask("theorem", got, 0) && !wrong; i++) {
                ask("writeOf", got, i);
                checkWritten();
            }
            for (int what = 0; what < 6; what++) {
                ask("theorem", got, what);
            }
            ask("about", 4);
        }
    }

    private static final List<String> MAKERS = List.of("refl", "trans", "comb", "abs", "beta",
        "assume", "eqmp", "deduct", "inst", "eta", "sym", "convert", "rewrite", "normal", "decide",
        "unfold");

    private void checkWritten() {
        int length = ask("about", 5);
        for (int k = 0; k <= length && !wrong; k++) {
            int before = history.length();
            ask("octet", k);
            if (!wrong) {
                history.setLength(before);
            }
        }
    }

    /** Feeds the text and answers how many of its bytes are to be read. */
    private int feed(String text) {
        history.append("text ").append(text).append('\n');
        if (random.nextInt(40) == 0) {
            text = " ".repeat(random.nextInt(5)) + text;
        }
        String whole = text.length() > 400 ? text.substring(0, 400) : text;
        String padded = whole + " ".repeat((400 - whole.length()) % 20);
        for (int i = 0; i < padded.length(); i += 20) {
            Object[] args = new Object[5];
            for (int k = 0; k < 5; k++) {
                int number = 0;
                for (int b = 0; b < 4; b++) {
                    number = number << 8 | padded.charAt(i + 4 * k + b) & 255;
                }
                args[k] = number;
            }
            ask("feed", args);
        }
        int spare = padded.length() - whole.length();
        return random.nextInt(60) == 0 ? random.nextInt(420) - 10
            : whole.length() + (random.nextInt(4) == 0 ? random.nextInt(spare + 1) : 0);
    }

    private int anyTheorem() {
        int count = model.now.thms.size();
        if (random.nextInt(60) == 0) {
            return random.nextInt(70) - 5;
        }
        return count == 0 ? 0 : random.nextInt(4) == 0 ? count - 1 : random.nextInt(count);
    }

    private int anyVar() {
        int count = model.now.vars.size();
        return random.nextInt(60) == 0 || count == 0 ? random.nextInt(13) - 1
            : random.nextInt(count);
    }

    private int equation() {
        for (int i = 0; i < 8; i++) {
            int t = anyTheorem();
            if (t >= 0 && t < model.now.thms.size() && model.now.thms.get(t).thm.left() != null) {
                return t;
            }
        }
        return anyTheorem();
    }

    /** Mostly of two THEOREMS that the RULE can be used of, if there are any. */
    private void callOfTwo(String rule, int t, int u) {
        ArrayList<int[]> pairs = new ArrayList<>();
        int count = random.nextInt(4) == 0 ? 0 : model.now.thms.size();
        for (int i = 0; i < count; i++) {
            for (int k = 0; k < count; k++) {
                if (fit(rule, model.now.thms.get(i).thm, model.now.thms.get(k).thm)) {
                    pairs.add(new int[] {i, k});
                }
            }
        }
        int[] pair = pairs.isEmpty() ? new int[] {t, u} : pairs.get(random.nextInt(pairs.size()));
        call(rule, pair[0], pair[1]);
    }

    private static boolean fit(String rule, Model.Thm one, Model.Thm other) {
        if (one.left() == null || other.left() == null && !rule.equals("eqmp")) {
            return false;
        }
        return rule.equals("comb") ? Model.fits(one.left(), other.left())
            : rule.equals("trans") ? Model.like(one.right(), other.left())
            : Model.like(one.left(), other.concl());
    }

    private void go() {
        if (random.nextInt(12) != 0) {
            call("theory", feed(texts.opening()));
        }
        int calls = 30 + random.nextInt(120);
        for (int i = 0; i < calls && !wrong; i++) {
            oneCall();
            if (random.nextInt(400) == 0) {
                call("fresh");
                call("theory", feed(texts.opening()));
            }
        }
    }

    private void oneCall() {
        switch (random.nextInt(31)) {
            case 0, 1, 2 -> call("theory", feed(texts.theory()));
            case 3 -> call("about", random.nextInt(8) - 1);
            case 4 -> call("used", random.nextInt(12) - 1);
            case 5 -> call("theorem", anyTheorem(), random.nextInt(8) - 1);
            case 6 -> call("same", anyTheorem(), anyTheorem());
            case 7 -> call("better", anyTheorem());
            case 8 -> call("term", feed(texts.anyTerm()), random.nextInt(10) - 1);
            case 9 -> {
                call(random.nextBoolean() ? "write" : "writeType", feed(texts.anyTerm()));
                checkWritten();
            }
            case 10 -> {
                call("writeOf", anyTheorem(), random.nextInt(5) - 2);
                call("writeSide", anyTheorem(), random.nextInt(6) == 0 ? 2 : random.nextInt(2));
                checkWritten();
                call("octet", random.nextInt(40) - 3);
            }
            case 11 -> call("refl", feed(texts.anyTerm()));
            case 12 -> callOfTwo("trans", equation(), equation());
            case 13 -> callOfTwo("comb", equation(), equation());
            case 14 -> call("abs", anyVar(), equation());
            case 15 -> call("beta", feed(texts.redex()));
            case 16, 17 -> call("assume", feed(texts.truth()));
            case 18 -> callOfTwo("eqmp", equation(), anyTheorem());
            case 19 -> call("deduct", anyTheorem(), anyTheorem());
            case 20, 21 -> {
                int v = anyVar();
                call("inst", anyTheorem(), v, feed(texts.forVar(v)));
            }
            case 22 -> call("eta", feed(texts.etaRedex()));
            case 23 -> call("sym", equation());
            case 24, 25 -> call("convert", feed(texts.conv() + ";" + texts.anyTerm()));
            case 26 -> call("rewrite", anyTheorem(), feed(texts.conv()));
            case 27 -> call("normal", feed(texts.anyTerm()));
            case 28 -> call("decide", feed(texts.equation()));
            case 29 -> call("unfold", anyTheorem());
            default -> {
                call("named", feed(texts.someName()));
                call("size");
            }
        }
    }

    /** Makes texts that mostly mean something in the state that there is. */
    private static final class Texts {
        private final Random random;
        private final Model model;
        private LinkedHashMap<String, Model.Ty> vars;
        private LinkedHashMap<String, Model.Ty> consts;
        private final ArrayList<String> names = new ArrayList<>();
        private final ArrayList<Model.Ty> types = new ArrayList<>();

        Texts(Random random, Model model) {
            this.random = random;
            this.model = model;
        }

        private boolean chance(int of) {
            return random.nextInt(of) == 0;
        }

        private <T> T any(List<T> from) {
            return from.get(random.nextInt(from.size()));
        }

        private void start() {
            vars = new LinkedHashMap<>(model.now.vars);
            consts = new LinkedHashMap<>(model.now.consts);
        }

        String opening() {
            return any(List.of(
                "var x : i;var y : i;var p : o;var f : i > i;const c : i;const g : i > i > o",
                "var x:i;var y:i;var z:i;const a:i>i>i;def d=\\x:i.a x x;thm l refl d;"
                    + "thm k assume a x y = a y x;thm m assume a (a x y) z = a x (a y z)",
                "var p:o;var q:o;const t:o>o>o;def n=\\b:o.t b b;def w=n;thm e assume t p q = q;"
                    + "thm s refl t p q",
                "var x:i;var u:i>o;var v:(i>i)>o;const k:i;def id=\\x:i.x;def co=\\x:i.\\y:i.x;"
                    + "def q=\\r:i.\\s:i.r=s;thm r refl u (id (co x k))",
                "var x:i;var aa:o;var ab:o;var b:o;const h:o>o;thm h assume b",
                "def r=(\\a:o.a)=(\\a:o.a);def al=\\f:i>o.f=\\x:i.r;def all=\\f:o.f;var x:i",
                "def r=(\\a:o.a)=(\\a:o.a);def al=\\f:i>o.f=\\x:i.r;const z:i>o;thm q refl al z;"
                    + "var x:i;var f:i>i;def tw=\\f:i>i.\\x:i.f (f x);thm b refl tw f"));
        }

        private Model.Ty type(int fuel) {
            if (fuel == 0 || random.nextInt(5) < 2) {
                return chance(3) ? Model.Ty.O : Model.Ty.I;
            }
            return Model.Ty.arrow(type(fuel - 1), type(fuel - 1));
        }

        private String typeText(Model.Ty t) {
            if (t.from() == null) {
                return t.text();
            }
            String from = typeText(t.from());
            boolean bare = t.from().from() == null;
            String gap = chance(6) ? " " : "";
            return (bare && !chance(10) ? from : "(" + from + ")") + gap + ">" + gap
                + (chance(8) ? "(" + typeText(t.to()) + ")" : typeText(t.to()));
        }

        private ArrayList<String> ofType(Model.Ty t) {
            ArrayList<String> found = new ArrayList<>();
            for (int i = 0; i < names.size(); i++) {
                if (types.get(i).is(t) && names.lastIndexOf(names.get(i)) == i) {
                    found.add(names.get(i));
                }
            }
            for (Map<String, Model.Ty> m : List.of(vars, consts)) {
                m.forEach((name, ty) -> {
                    if (ty.is(t) && !names.contains(name)) {
                        found.add(name);
                    }
                });
            }
            return found;
        }

        private LinkedHashMap<String, Model.Ty> heads() {
            LinkedHashMap<String, Model.Ty> all = new LinkedHashMap<>(vars);
            all.putAll(consts);
            for (int i = 0; i < names.size(); i++) {
                all.put(names.get(i), types.get(i));
            }
            return all;
        }

        /** A text of the type that stands as one piece. */
        private String piece(Model.Ty t, int fuel) {
            String s = term(t, fuel);
            return s.matches("[a-z]+") && !chance(25) ? s : "(" + s + ")";
        }

        private String term(Model.Ty t, int fuel) {
            if (fuel > 0) {
                int kind = random.nextInt(10);
                if (t.from() != null && kind < 5) {
                    return lambda(t, fuel);
                }
                if (kind < 2) {
                    return redexOf(t, fuel);
                }
                if (t == Model.Ty.O && kind < 5) {
                    Model.Ty side = type(1);
                    return unended(term(side, fuel - 1)) + (chance(3) ? " = " : "=")
                        + term2(side, fuel - 1);
                }
                String applied = application(t, fuel);
                if (applied != null) {
                    return applied;
                }
            }
            ArrayList<String> leaves = ofType(t);
            if (!leaves.isEmpty()) {
                return any(leaves);
            }
            if (t.from() != null && fuel > -9) {
                return lambda(t, fuel - 1);
            }
            String applied = fuel > -3 ? application(t, fuel) : null;
            return applied != null ? applied
                : t == Model.Ty.O ? "(\\a:o.a)=(\\a:o.a)" : heads().isEmpty() ? "zz"
                : any(new ArrayList<>(heads().keySet()));
        }

        /** A left side: what would go on over the = is put into brackets. */
        private String unended(String s) {
            return s.contains("\\") || s.contains("=") ? "(" + s + ")" : s;
        }

        private String term2(Model.Ty t, int fuel) {
            String s = term(t, fuel);
            return s.contains("=") && !chance(20) ? "(" + s + ")" : s;
        }

        private String lambda(Model.Ty t, int fuel) {
            String name = any(List.of("a", "b", "x", "e", "i", "o"));
            names.add(name);
            types.add(t.from());
            String gap = chance(6) ? " " : "";
            String s = "\\" + gap + name + gap + ":" + gap + typeText(t.from()) + gap + "."
                + gap + body(t.to(), name, fuel);
            names.remove(names.size() - 1);
            types.remove(types.size() - 1);
            return s;
        }

        private String body(Model.Ty t, String bound, int fuel) {
            if (fuel > 0 && chance(3)) {
                Model.Ty f = Model.Ty.arrow(types.get(types.size() - 1), t);
                String head = piece(f, fuel - 1);
                return head + " " + bound;
            }
            return term(t, fuel - 1);
        }

        private String redexOf(Model.Ty t, int fuel) {
            Model.Ty arg = type(1);
            return "(" + lambda(Model.Ty.arrow(arg, t), fuel - 1) + ") " + piece(arg, fuel - 2);
        }

        private String application(Model.Ty t, int fuel) {
            ArrayList<String> fitting = new ArrayList<>();
            LinkedHashMap<String, Model.Ty> heads = heads();
            heads.forEach((name, ty) -> {
                for (Model.Ty rest = ty; rest.from() != null; rest = rest.to()) {
                    if (rest.to().is(t)) {
                        fitting.add(name);
                    }
                }
            });
            if (fitting.isEmpty()) {
                return null;
            }
            String name = any(fitting);
            StringBuilder s = new StringBuilder(name);
            Model.Ty rest = heads.get(name);
            do {
                s.append(' ').append(piece(rest.from(), fuel - 1));
                rest = rest.to();
            } while (!rest.is(t) && rest.from() != null);
            return s.toString();
        }

        private int fuel() {
            return chance(8) ? 6 : chance(3) ? 4 : random.nextInt(4);
        }

        private String spoiled(String s) {
            if (!chance(9)) {
                return s;
            }
            int at = random.nextInt(s.length() + 1);
            String extra = any(List.of(" ", "(", ")", "\\", ";", ":", "=", ">", ".", "x", " x ", " q",
                "\u00ff", "A", " in ", " refl", "((((((((((((((", " = ", "abcdefg", " o", "0"));
            int to = Math.min(s.length(), at + random.nextInt(4));
            return chance(2) ? s.substring(0, at) + extra + s.substring(at)
                : s.substring(0, at) + s.substring(to);
        }

        String anyTerm() {
            start();
            return spoiled(term(chance(2) ? Model.Ty.O : type(2), fuel()));
        }

        String truth() {
            start();
            return spoiled(term(chance(15) ? type(2) : Model.Ty.O, fuel()));
        }

        String equation() {
            start();
            Model.Ty t = type(1);
            String left = term(t, fuel());
            String right = chance(3) ? left : term(t, fuel());
            if (chance(3)) {
                right = "(\\a:" + typeText(t) + ".a) (" + left + ")";
            }
            return spoiled(chance(15) ? left : unended(left) + "=" + "(" + right + ")");
        }

        String redex() {
            start();
            return spoiled(chance(8) ? term(type(2), fuel()) : redexOf(type(1), fuel() + 1));
        }

        String etaRedex() {
            start();
            Model.Ty t = Model.Ty.arrow(type(1), type(1));
            String name = chance(6) ? "x" : "e";
            return spoiled("\\" + name + ":" + typeText(t.from()) + "." + piece(t, fuel()) + " "
                + name);
        }

        String forVar(int v) {
            start();
            ArrayList<Model.Ty> all = new ArrayList<>(vars.values());
            boolean known = v >= 0 && v < all.size() && !chance(12);
            return spoiled(term(known ? all.get(v) : type(2), fuel()));
        }

        String someName() {
            ArrayList<String> all = theorems();
            String name = all.isEmpty() || chance(4) ? any(List.of("", "x", "c", "a b", "in", "zzzzzzz"))
                : any(all);
            return " ".repeat(random.nextInt(3)) + name + " ".repeat(random.nextInt(3));
        }

        private ArrayList<String> theorems() {
            ArrayList<String> all = new ArrayList<>();
            model.now.thms.forEach(e -> {
                if (e.name != null) {
                    all.add(e.name);
                }
            });
            return all;
        }

        String conv() {
            return spoiled(chance(6) ? "rep once (beta else eta else def)"
                : chance(25) ? "try ".repeat(10 + random.nextInt(4)) + "beta" : conv(4));
        }

        private String conv(int fuel) {
            StringBuilder s = new StringBuilder(step(fuel));
            while (chance(4)) {
                s.append(" then ").append(step(fuel - 1));
            }
            return s.toString();
        }

        private String step(int fuel) {
            StringBuilder s = new StringBuilder(first(fuel));
            while (chance(3)) {
                s.append(" else ").append(first(fuel - 1));
            }
            return s.toString();
        }

        private String first(int fuel) {
            ArrayList<String> thms = theorems();
            if (fuel <= 0 || chance(3)) {
                return chance(3) && !thms.isEmpty() ? "by " + any(thms)
                    : any(List.of("beta", "beta", "eta", "eta", "def", "def", "all", "no"));
            }
            if (chance(4)) {
                return "(" + conv(fuel - 1) + ")";
            }
            return any(List.of("try", "rep", "left", "right", "in", "once", "once", "rep once",
                "try once")) + " " + first(fuel - 1);
        }

        String theory() {
            start();
            ArrayList<String> thms = theorems();
            StringBuilder s = new StringBuilder();
            int lines = 1 + random.nextInt(4);
            for (int i = 0; i < lines && s.length() < 330; i++) {
                s.append(i == 0 ? "" : chance(4) ? " ; " : ";").append(line(thms));
            }
            return spoiled(s.toString());
        }

        private String newName() {
            return chance(15) ? any(List.of("x", "then", "o", "i", "var"))
                : "" + (char) ('a' + random.nextInt(26)) + (chance(3) ? ""
                : "" + (char) ('a' + random.nextInt(26)));
        }

        private String line(ArrayList<String> thms) {
            String name = newName();
            switch (random.nextInt(8)) {
                case 0: {
                    Model.Ty t = type(3);
                    String s = "var " + name + ":" + typeText(t);
                    vars.put(name, t);
                    return s;
                }
                case 1: {
                    Model.Ty t = type(3);
                    String s = "const " + name + " : " + typeText(t);
                    consts.put(name, t);
                    return s;
                }
                case 2, 3: {
                    Model.Ty t = type(2);
                    LinkedHashMap<String, Model.Ty> kept = vars;
                    vars = chance(6) ? vars : new LinkedHashMap<>();
                    String s = "def " + name + "=" + term(t, fuel());
                    vars = kept;
                    consts.put(name, t);
                    thms.add(name);
                    return s;
                }
                default: {
                    String s = "thm " + name + " " + rule(thms);
                    thms.add(name);
                    return s;
                }
            }
        }

        private String rule(ArrayList<String> thms) {
            String t = thms.isEmpty() || chance(20) ? "qq" : any(thms);
            String u = thms.isEmpty() || chance(20) ? "x" : any(thms);
            String v = vars.isEmpty() || chance(20) ? "c" : any(new ArrayList<>(vars.keySet()));
            Model.Ty ty = vars.getOrDefault(v, Model.Ty.I);
            switch (random.nextInt(11)) {
                case 0:
                    return "refl " + term(type(2), fuel());
                case 1:
                    return "trans " + t + " " + t;
                case 2:
                    return "comb " + t + " " + u;
                case 3:
                    return "abs " + v + " " + t;
                case 4:
                    return "beta " + redexOf(type(1), fuel() + 1);
                case 5, 6:
                    return "assume " + term(chance(12) ? type(1) : Model.Ty.O, fuel());
                case 7:
                    return "eqmp " + t + " " + u;
                case 8:
                    return "deduct " + t + " " + u;
                case 9:
                    return "inst " + t + " " + v + " " + term(chance(10) ? type(1) : ty, fuel());
                default:
                    return "eta \\e:i." + piece(Model.Ty.arrow(Model.Ty.I, type(1)), fuel()) + " e";
            }
        }
    }
}
