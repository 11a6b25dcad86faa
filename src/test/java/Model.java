import java.util.ArrayList;
import java.util.Comparator;
import java.util.HashMap;
import java.util.LinkedHashMap;
import java.util.List;
import java.util.Map;
import java.util.NoSuchElementException;
import java.util.Set;
import java.util.TreeMap;

/**
 * The document once more, written from its words alone and in another way than the class: terms are
 * trees whose bound variables are LEVELS themselves, conversions and readers call themselves, faults
 * and NO ROOM are exceptions. RandomRunsTest lets both answer the same calls.
 */
final class Model {
    static final int NONE = -1;

    // ---- types and terms

    record Ty(Ty from, Ty to, String text) {
        static final Ty O = new Ty(null, null, "o");
        static final Ty I = new Ty(null, null, "i");

        static Ty arrow(Ty a, Ty b) {
            return new Ty(a, b, "(" + a.text + ">" + b.text + ")");
        }

        int letters() {
            return from == null ? 1 : from.letters() + to.letters();
        }

        boolean is(Ty other) {
            return text.equals(other.text);
        }
    }

    interface Tm {
        Ty type();
    }

    record Var(String name, Ty type) implements Tm { }

    record Con(String name, Ty type) implements Tm { }

    record Eq(Ty of) implements Tm {
        public Ty type() {
            return Ty.arrow(of, Ty.arrow(of, Ty.O));
        }
    }

    record Level(int number, Ty type) implements Tm { }

    record App(Tm f, Tm x) implements Tm {
        public Ty type() {
            return f.type().to;
        }
    }

    record Lam(Ty bound, Tm body) implements Tm {
        public Ty type() {
            return Ty.arrow(bound, body.type());
        }
    }

    static String written(Tm t, boolean typed) {
        if (t instanceof Var v) {
            return v.name;
        }
        if (t instanceof Con c) {
            return c.name;
        }
        if (t instanceof Eq e) {
            return typed ? "=" + e.of.text : "=";
        }
        if (t instanceof Level l) {
            return "" + l.number;
        }
        if (t instanceof App a) {
            return "(" + written(a.f, typed) + " " + written(a.x, typed) + ")";
        }
        Lam l = (Lam) t;
        return "\\" + l.bound.text + "." + written(l.body, typed);
    }

    static boolean like(Tm a, Tm b) {
        return written(a, true).equals(written(b, true));
    }

    static int sizeOf(Tm t) {
        return t instanceof App a ? 1 + sizeOf(a.f) + sizeOf(a.x)
            : t instanceof Lam l ? 1 + sizeOf(l.body) : 1;
    }

    static boolean hasVar(Tm t, String name) {
        return t instanceof Var v ? v.name.equals(name)
            : t instanceof App a ? hasVar(a.f, name) || hasVar(a.x, name)
            : t instanceof Lam l && hasVar(l.body, name);
    }

    static boolean hasCon(Tm t, String name) {
        return t instanceof Con c ? c.name.equals(name)
            : t instanceof App a ? hasCon(a.f, name) || hasCon(a.x, name)
            : t instanceof Lam l && hasCon(l.body, name);
    }

    static boolean hasLevel(Tm t, int number) {
        return t instanceof Level v ? v.number == number
            : t instanceof App a ? hasLevel(a.f, number) || hasLevel(a.x, number)
            : t instanceof Lam l && hasLevel(l.body, number);
    }

    static boolean hasLevelBelow(Tm t, int bound) {
        return t instanceof Level v ? v.number < bound
            : t instanceof App a ? hasLevelBelow(a.f, bound) || hasLevelBelow(a.x, bound)
            : t instanceof Lam l && hasLevelBelow(l.body, bound);
    }

    /** Levels from a number on are moved: the term comes to stand under more, or fewer, lambdas. */
    static Tm moved(Tm t, int from, int by) {
        if (t instanceof Level v) {
            return v.number >= from ? new Level(v.number + by, v.type) : v;
        }
        if (t instanceof App a) {
            return new App(moved(a.f, from, by), moved(a.x, from, by));
        }
        return t instanceof Lam l ? new Lam(l.bound, moved(l.body, from, by)) : t;
    }

    /** The body of a lambda that stands in the open, with y for its variable. */
    static Tm opened(Tm t, Tm y, int inner) {
        if (t instanceof Level v) {
            return v.number == 0 ? moved(y, 0, inner) : new Level(v.number - 1, v.type);
        }
        if (t instanceof App a) {
            return new App(opened(a.f, y, inner), opened(a.x, y, inner));
        }
        return t instanceof Lam l ? new Lam(l.bound, opened(l.body, y, inner + 1)) : t;
    }

    static Tm closed(Tm t, String var) {
        if (t instanceof Var v) {
            return v.name.equals(var) ? new Level(0, v.type) : v;
        }
        if (t instanceof Level v) {
            return new Level(v.number + 1, v.type);
        }
        if (t instanceof App a) {
            return new App(closed(a.f, var), closed(a.x, var));
        }
        return t instanceof Lam l ? new Lam(l.bound, closed(l.body, var)) : t;
    }

    static Tm replaced(Tm t, String var, Tm y, int around) {
        if (t instanceof Var v) {
            return v.name.equals(var) ? moved(y, 0, around) : v;
        }
        if (t instanceof App a) {
            return new App(replaced(a.f, var, y, around), replaced(a.x, var, y, around));
        }
        return t instanceof Lam l ? new Lam(l.bound, replaced(l.body, var, y, around + 1)) : t;
    }

    static Tm equation(Tm l, Tm r) {
        return new App(new App(new Eq(l.type()), l), r);
    }

    static Tm leftOf(Tm t) {
        return t instanceof App a && a.f instanceof App b && b.f instanceof Eq ? b.x : null;
    }

    static Tm rightOf(Tm t) {
        return leftOf(t) == null ? null : ((App) t).x;
    }

    // ---- theorems

    /** HYPS by what is written of them. */
    record Thm(TreeMap<String, Tm> hyps, Tm concl) {
        Tm left() {
            return leftOf(concl);
        }

        Tm right() {
            return rightOf(concl);
        }

        boolean hypsHave(String var) {
            return hyps.values().stream().anyMatch(h -> hasVar(h, var));
        }

        boolean sameAs(Thm other) {
            return hyps.keySet().equals(other.hyps.keySet()) && like(concl, other.concl);
        }
    }

    static TreeMap<String, Tm> hyps() {
        return new TreeMap<>(Comparator.naturalOrder());
    }

    static TreeMap<String, Tm> both(Thm a, Thm b) {
        TreeMap<String, Tm> all = hyps();
        all.putAll(a.hyps);
        all.putAll(b.hyps);
        return all;
    }

    static final class NoRoom extends RuntimeException {
        private static final long serialVersionUID = 1;
    }

    static final class Fault extends RuntimeException {
        private static final long serialVersionUID = 1;
        final int number;
        final int place;

        Fault(int number, int place) {
            this.number = number;
            this.place = place;
        }
    }

    // ---- state

    static final class Entry {
        String name;
        Thm thm;
        int maker;
    }

    static final class State {
        LinkedHashMap<String, Ty> vars = new LinkedHashMap<>();
        LinkedHashMap<String, Ty> consts = new LinkedHashMap<>();
        HashMap<String, Integer> defs = new HashMap<>();
        ArrayList<Entry> thms = new ArrayList<>();
        int[] counts = new int[10];

        State copy() {
            State s = new State();
            s.vars.putAll(vars);
            s.consts.putAll(consts);
            s.defs.putAll(defs);
            s.thms.addAll(thms);
            s.counts = counts.clone();
            return s;
        }

        int find(String name) {
            for (int i = 0; i < thms.size(); i++) {
                if (name.equals(thms.get(i).name)) {
                    return i;
                }
            }
            return NONE;
        }

        int add(String name, Thm thm, int maker) {
            Entry e = new Entry();
            e.name = name;
            e.thm = thm;
            e.maker = maker;
            thms.add(e);
            return thms.size() - 1;
        }
    }

    State now = new State();
    private final StringBuilder tape = new StringBuilder();
    private String output = "";
    private int lastFault;
    private int lastPlace;
    private int lastTrouble;
    private int budget;
    private int ownVars;

    // ---- rules; null is NOT SO

    private Thm use(int rule, TreeMap<String, Tm> hyps, Tm concl) {
        spend();
        now.counts[rule]++;
        if (sizeOf(concl) > 100 || hyps.size() > 8) {
            throw new NoRoom();
        }
        for (Tm h : hyps.values()) {
            if (sizeOf(h) > 100) {
                throw new NoRoom();
            }
        }
        return new Thm(hyps, concl);
    }

    private void spend() {
        if (budget == 0) {
            throw new NoRoom();
        }
        budget--;
    }

    Thm rRefl(Tm t) {
        return use(0, hyps(), equation(t, t));
    }

    Thm rTrans(Thm a, Thm b) {
        if (a.left() == null || b.left() == null || !like(a.right(), b.left())) {
            return null;
        }
        return use(1, both(a, b), equation(a.left(), b.right()));
    }

    Thm rComb(Thm a, Thm b) {
        if (a.left() == null || b.left() == null || !fits(a.left(), b.left())) {
            return null;
        }
        Tm left = new App(a.left(), b.left());
        return use(2, both(a, b), equation(left, new App(a.right(), b.right())));
    }

    Thm rAbs(Var v, Thm a) {
        if (a.left() == null || a.hypsHave(v.name)) {
            return null;
        }
        Tm left = new Lam(v.type, closed(a.left(), v.name));
        return use(3, a.hyps, equation(left, new Lam(v.type, closed(a.right(), v.name))));
    }

    Thm rBeta(Tm t) {
        if (t instanceof App a && a.f instanceof Lam l) {
            return use(4, hyps(), equation(t, opened(l.body, a.x, 0)));
        }
        return null;
    }

    Thm rAssume(Tm t) {
        if (!t.type().is(Ty.O)) {
            return null;
        }
        TreeMap<String, Tm> h = hyps();
        h.put(written(t, false), t);
        return use(5, h, t);
    }

    Thm rEqmp(Thm a, Thm b) {
        if (a.left() == null || !like(a.left(), b.concl)) {
            return null;
        }
        return use(6, both(a, b), a.right());
    }

    Thm rDeduct(Thm a, Thm b) {
        TreeMap<String, Tm> h = hyps();
        a.hyps.forEach((k, v) -> {
            if (!like(v, b.concl)) {
                h.put(k, v);
            }
        });
        b.hyps.forEach((k, v) -> {
            if (!like(v, a.concl)) {
                h.put(k, v);
            }
        });
        return use(7, h, equation(a.concl, b.concl));
    }

    Thm rInst(Thm a, Var v, Tm y) {
        if (!v.type.is(y.type())) {
            return null;
        }
        TreeMap<String, Tm> h = hyps();
        for (Tm old : a.hyps.values()) {
            Tm t = replaced(old, v.name, y, 0);
            h.put(written(t, false), t);
        }
        return use(8, h, replaced(a.concl, v.name, y, 0));
    }

    static boolean isEta(Tm t, int around) {
        return t instanceof Lam l && l.body instanceof App a && a.x instanceof Level v
            && v.number == around && !hasLevel(a.f, around);
    }

    Thm rEta(Tm t) {
        if (!isEta(t, 0)) {
            return null;
        }
        return use(9, hyps(), equation(t, moved(((App) ((Lam) t).body).f, 0, -1)));
    }

    Thm rSym(Thm a) {
        if (a.left() == null) {
            return null;
        }
        Tm l = a.left();
        Thm one = rRefl(new Eq(l.type()));
        Thm two = rComb(one, a);
        Thm three = rRefl(l);
        Thm four = rComb(two, three);
        Thm five = rRefl(l);
        return rEqmp(four, five);
    }

    static boolean fits(Tm f, Tm x) {
        return f.type().from != null && f.type().from.is(x.type());
    }

    // ---- conversions; null is FAILS

    interface Cv {
        Thm on(Tm t);
    }

    private Cv repeated(Cv first) {
        return t -> {
            Thm all = first.on(t);
            if (all == null) {
                return rRefl(t);
            }
            while (true) {
                Thm next = first.on(all.right());
                if (next == null) {
                    return all;
                }
                all = rTrans(all, next);
            }
        };
    }

    private Cv onLeft(Cv first) {
        return t -> {
            if (!(t instanceof App a)) {
                return null;
            }
            Thm one = first.on(a.f);
            return one == null ? null : rComb(one, rRefl(a.x));
        };
    }

    private Cv onRight(Cv first) {
        return t -> {
            if (!(t instanceof App a)) {
                return null;
            }
            Thm zero = rRefl(a.f);
            Thm one = first.on(a.x);
            return one == null ? null : rComb(zero, one);
        };
    }

    private Cv inside(Cv first) {
        return t -> {
            if (!(t instanceof Lam l)) {
                return null;
            }
            spend();
            ownVars++;
            Var own = new Var("#" + ownVars, l.bound);
            Thm one = first.on(opened(l.body, own, 0));
            return one == null ? null : rAbs(own, one);
        };
    }

    private Cv orElse(Cv a, Cv b) {
        return t -> {
            Thm one = a.on(t);
            return one != null ? one : b.on(t);
        };
    }

    private Cv once(Cv first) {
        Cv[] self = new Cv[1];
        self[0] = t -> orElse(orElse(first, onLeft(self[0])),
            orElse(onRight(self[0]), inside(self[0]))).on(t);
        return self[0];
    }

    private Thm definition(Tm t) {
        return t instanceof Con c && now.defs.containsKey(c.name)
            ? now.thms.get(now.defs.get(c.name)).thm : null;
    }

    private Cv byTheorem(Thm th) {
        return t -> {
            if (th.left() == null) {
                return null;
            }
            Map<String, Tm> found = new HashMap<>();
            if (!match(th, th.left(), t, 0, found)) {
                return null;
            }
            Thm so = th;
            for (Map.Entry<String, Ty> v : now.vars.entrySet()) {
                if (found.containsKey(v.getKey())) {
                    so = rInst(so, new Var(v.getKey(), v.getValue()), found.get(v.getKey()));
                }
            }
            return like(so.left(), t) ? so : null;
        };
    }

    private boolean match(Thm th, Tm l, Tm t, int around, Map<String, Tm> found) {
        if (l instanceof Var v && !th.hypsHave(v.name)) {
            if (!v.type.is(t.type()) || hasLevelBelow(t, around)) {
                return false;
            }
            Tm y = moved(t, 0, -around);
            Tm before = found.putIfAbsent(v.name, y);
            return before == null || like(before, y);
        }
        if (l instanceof App a && t instanceof App b) {
            return match(th, a.f, b.f, around, found) && match(th, a.x, b.x, around, found);
        }
        if (l instanceof Lam a && t instanceof Lam b) {
            return a.bound.is(b.bound) && match(th, a.body, b.body, around + 1, found);
        }
        return !(l instanceof App) && !(l instanceof Lam) && like(l, t);
    }

    private Cv normalConv() {
        return repeated(once(orElse(orElse(this::rBeta, this::rEta), this::definition)));
    }

    // ---- reading

    private static final Set<String> WORDS = Set.of("var", "const", "def", "thm", "refl", "trans",
        "comb", "abs", "beta", "assume", "eqmp", "deduct", "inst", "eta", "all", "no", "by", "try",
        "rep", "left", "right", "in", "once", "then", "else");
    private static final List<String> RULES = List.of("refl", "trans", "comb", "abs", "beta",
        "assume", "eqmp", "deduct", "inst", "eta");

    private String text;
    private int at;
    /** The token at hand: a name, a word, a sign, "" at the end, "?" where none begins. */
    private String tok;
    private int place;
    private final ArrayList<String> boundNames = new ArrayList<>();
    private final ArrayList<Ty> boundTypes = new ArrayList<>();

    private void next() {
        while (at < text.length() && text.charAt(at) == ' ') {
            at++;
        }
        place = at;
        if (at == text.length()) {
            tok = "";
            return;
        }
        char c = text.charAt(at);
        int to = at;
        while (to < text.length() && text.charAt(to) >= 'a' && text.charAt(to) <= 'z') {
            to++;
        }
        if (to > at) {
            tok = to - at > 6 ? "?" : text.substring(at, to);
            at = to;
        } else {
            tok = ";:=>.()\\".indexOf(c) >= 0 ? "" + c : "?";
            at++;
        }
    }

    private boolean isName() {
        return !tok.isEmpty() && Character.isLetter(tok.charAt(0)) && !WORDS.contains(tok);
    }

    private Fault form() {
        return new Fault(1, place);
    }

    private void take(String sign) {
        if (!tok.equals(sign)) {
            throw form();
        }
        next();
    }

    private String takeName() {
        if (!isName()) {
            throw form();
        }
        String name = tok;
        next();
        return name;
    }

    private void nest(int depth) {
        if (depth == 12) {
            throw new Fault(5, place);
        }
    }

    private Ty wholeType(int depth) {
        int first = place;
        Ty type = type(depth);
        if (type.letters() > 8) {
            throw new Fault(5, first);
        }
        return type;
    }

    private Ty type(int depth) {
        Ty atom;
        if (tok.equals("o") || tok.equals("i")) {
            atom = tok.equals("o") ? Ty.O : Ty.I;
            next();
        } else if (tok.equals("(")) {
            nest(depth);
            next();
            atom = type(depth + 1);
            take(")");
        } else {
            throw form();
        }
        if (!tok.equals(">")) {
            return atom;
        }
        next();
        return Ty.arrow(atom, type(depth));
    }

    private Tm wholeTerm(boolean truth, boolean closed) {
        int first = place;
        boundNames.clear();
        boundTypes.clear();
        Tm t = term(0);
        if (truth && !t.type().is(Ty.O)) {
            throw new Fault(3, first);
        }
        if (closed && now.vars.keySet().stream().anyMatch(v -> hasVar(t, v))) {
            throw new Fault(3, first);
        }
        if (sizeOf(t) > 100) {
            throw new Fault(5, first);
        }
        return t;
    }

    private Tm term(int depth) {
        Tm left = side(depth);
        if (!tok.equals("=")) {
            return left;
        }
        next();
        int first = place;
        Tm right = side(depth);
        if (!left.type().is(right.type())) {
            throw new Fault(3, first);
        }
        return equation(left, right);
    }

    private Tm side(int depth) {
        Tm all = piece(depth);
        while (isName() || tok.equals("(") || tok.equals("\\")) {
            int first = place;
            Tm x = piece(depth);
            if (!fits(all, x)) {
                throw new Fault(3, first);
            }
            all = new App(all, x);
        }
        return all;
    }

    private Tm piece(int depth) {
        if (isName()) {
            int here = boundNames.lastIndexOf(tok);
            Tm t = here >= 0 ? new Level(here, boundTypes.get(here))
                : now.vars.containsKey(tok) ? new Var(tok, now.vars.get(tok))
                : now.consts.containsKey(tok) ? new Con(tok, now.consts.get(tok)) : null;
            if (t == null) {
                throw new Fault(2, place);
            }
            next();
            return t;
        }
        if (tok.equals("(")) {
            nest(depth);
            next();
            Tm t = term(depth + 1);
            take(")");
            return t;
        }
        if (!tok.equals("\\")) {
            throw form();
        }
        nest(depth);
        next();
        String name = takeName();
        take(":");
        Ty type = wholeType(depth + 1);
        take(".");
        boundNames.add(name);
        boundTypes.add(type);
        Tm body = term(depth + 1);
        boundNames.remove(boundNames.size() - 1);
        boundTypes.remove(boundTypes.size() - 1);
        return new Lam(type, body);
    }

    private void line() {
        int first = place;
        String word = tok;
        if (!List.of("var", "const", "def", "thm").contains(word)) {
            throw form();
        }
        budget = 100;
        boolean asThm = word.equals("def") || word.equals("thm");
        if (word.equals("var") && now.vars.size() == 10
            || (word.equals("const") || word.equals("def")) && now.consts.size() == 10
            || asThm && now.thms.size() == 60) {
            throw new Fault(5, first);
        }
        next();
        if (isName() && (now.vars.containsKey(tok) || now.consts.containsKey(tok)
            || now.find(tok) >= 0)) {
            throw new Fault(2, place);
        }
        String name = takeName();
        if (word.equals("var") || word.equals("const")) {
            take(":");
            (word.equals("var") ? now.vars : now.consts).put(name, wholeType(0));
        } else if (word.equals("def")) {
            take("=");
            Tm t = wholeTerm(false, true);
            now.consts.put(name, t.type());
            now.defs.put(name, now.thms.size());
            now.add(name, new Thm(hyps(), equation(new Con(name, t.type()), t)), 10);
        } else {
            int rule = RULES.indexOf(tok);
            if (rule < 0) {
                throw form();
            }
            int ruleAt = place;
            next();
            try {
                Thm made = byRule(rule);
                if (made == null) {
                    throw new Fault(4, ruleAt);
                }
                now.add(name, made, rule);
            } catch (NoRoom e) {
                throw new Fault(5, ruleAt);
            }
        }
    }

    private Thm byRule(int rule) {
        switch (rule) {
            case 0:
                return rRefl(wholeTerm(false, false));
            case 4:
                return rBeta(wholeTerm(false, false));
            case 5:
                return rAssume(wholeTerm(true, false));
            case 9:
                return rEta(wholeTerm(false, false));
            case 3: {
                Var v = varName();
                return rAbs(v, thmName());
            }
            case 8: {
                Thm t = thmName();
                Var v = varName();
                return rInst(t, v, wholeTerm(false, false));
            }
            default: {
                Thm a = thmName();
                Thm b = thmName();
                return rule == 1 ? rTrans(a, b) : rule == 2 ? rComb(a, b)
                    : rule == 6 ? rEqmp(a, b) : rDeduct(a, b);
            }
        }
    }

    private Var varName() {
        if (isName() && !now.vars.containsKey(tok)) {
            throw new Fault(2, place);
        }
        String name = takeName();
        return new Var(name, now.vars.get(name));
    }

    private Thm thmName() {
        if (isName() && now.find(tok) < 0) {
            throw new Fault(2, place);
        }
        return now.thms.get(now.find(takeName())).thm;
    }

    private Cv conv(int depth) {
        Cv all = step(depth);
        while (tok.equals("then")) {
            next();
            Cv a = all;
            Cv b = step(depth);
            all = t -> {
                Thm one = a.on(t);
                Thm two = one == null ? null : b.on(one.right());
                return two == null ? null : rTrans(one, two);
            };
        }
        return all;
    }

    private Cv step(int depth) {
        Cv all = first(depth);
        while (tok.equals("else")) {
            next();
            all = orElse(all, first(depth));
        }
        return all;
    }

    private Cv first(int depth) {
        String word = tok;
        switch (word) {
            case "all":
                next();
                return this::rRefl;
            case "no":
                next();
                return t -> null;
            case "beta":
                next();
                return this::rBeta;
            case "eta":
                next();
                return this::rEta;
            case "def":
                next();
                return this::definition;
            case "by":
                next();
                return byTheorem(thmName());
            case "(": {
                nest(depth);
                next();
                Cv c = conv(depth + 1);
                take(")");
                return c;
            }
            case "try":
            case "rep":
            case "left":
            case "right":
            case "in":
            case "once": {
                nest(depth);
                next();
                Cv c = first(depth + 1);
                return word.equals("try") ? orElse(c, this::rRefl) : word.equals("rep") ? repeated(c)
                    : word.equals("left") ? onLeft(c) : word.equals("right") ? onRight(c)
                    : word.equals("in") ? inside(c) : once(c);
            }
            default:
                throw form();
        }
    }

    // ---- calls

    private interface Reading {
        int go();
    }

    private int refuse(int number) {
        lastTrouble = number;
        return NONE;
    }

    private int answer(int value) {
        lastTrouble = 0;
        return value;
    }

    /** All that a call does behind its refusals by 1: what is refused changes nothing. */
    private int attempt(int n, boolean reads, Reading body) {
        if (reads && (n < 0 || n > tape.length())) {
            return refuse(2);
        }
        State before = now.copy();
        budget = 100;
        int result;
        try {
            if (reads) {
                text = tape.substring(0, n);
                tape.setLength(0);
                at = 0;
                next();
                lastFault = 0;
            }
            result = body.go();
        } catch (Fault f) {
            lastFault = f.number;
            lastPlace = f.place;
            now = before;
            return refuse(4);
        } catch (NoRoom e) {
            now = before;
            return refuse(3);
        }
        if (result < 0) {
            now = before;
            return refuse(-result);
        }
        return answer(result);
    }

    private static final int IS_NOT_SO = -5;
    private static final int IS_FULL = -3;

    private int kept(Thm t, int maker) {
        return t == null ? IS_NOT_SO : now.thms.size() == 60 ? IS_FULL : now.add(null, t, maker);
    }

    private Tm onlyTerm() {
        Tm t = wholeTerm(false, false);
        take("");
        return t;
    }

    private boolean has(int t) {
        return t >= 0 && t < now.thms.size();
    }

    private Thm thm(int t) {
        return now.thms.get(t).thm;
    }

    private Var var(int v) {
        String name = new ArrayList<>(now.vars.keySet()).get(v);
        return new Var(name, now.vars.get(name));
    }

    public int feed(int a, int b, int c, int d, int e) {
        if (tape.length() > 380) {
            return NONE;
        }
        for (int number : new int[] {a, b, c, d, e}) {
            tape.append((char) (number >>> 24)).append((char) (number >>> 16 & 255));
            tape.append((char) (number >>> 8 & 255)).append((char) (number & 255));
        }
        return tape.length();
    }

    public int theory(int n) {
        return attempt(n, true, () -> {
            line();
            while (!tok.isEmpty()) {
                take(";");
                line();
            }
            return now.thms.size();
        });
    }

    public int fresh() {
        int were = now.thms.size();
        now = new State();
        return were;
    }

    public int fault() {
        return lastFault;
    }

    public int where() {
        return lastTrouble == 4 ? lastPlace : NONE;
    }

    public int about(int what) {
        int all = 0;
        for (int c : now.counts) {
            all += c;
        }
        int[] answers = {now.vars.size(), now.consts.size(), now.thms.size(), now.defs.size(), all,
            output.length()};
        return what < 0 || what > 5 ? refuse(1) : answer(answers[what]);
    }

    public int used(int rule) {
        return rule < 0 || rule > 9 ? refuse(1) : answer(now.counts[rule]);
    }

    private int varBits(List<Tm> all) {
        int bits = 0;
        int bit = 1;
        for (String v : now.vars.keySet()) {
            bits |= all.stream().anyMatch(t -> hasVar(t, v)) ? bit : 0;
            bit *= 2;
        }
        return bits;
    }

    private int constBits(List<Tm> all) {
        int bits = 0;
        int bit = 1;
        for (String c : now.consts.keySet()) {
            bits |= all.stream().anyMatch(t -> hasCon(t, c)) ? bit : 0;
            bit *= 2;
        }
        return bits;
    }

    public int theorem(int t, int what) {
        if (!has(t) || what < 0 || what > 5) {
            return refuse(1);
        }
        List<Tm> all = new ArrayList<>(thm(t).hyps.values());
        all.add(thm(t).concl);
        int[] answers = {thm(t).hyps.size(), sizeOf(thm(t).concl), now.thms.get(t).maker,
            thm(t).left() == null ? 0 : 1, varBits(all), constBits(all)};
        return answer(answers[what]);
    }

    public int same(int t, int u) {
        return !has(t) || !has(u) ? refuse(1) : answer(thm(t).sameAs(thm(u)) ? 1 : 0);
    }

    public int better(int t) {
        if (!has(t)) {
            return refuse(1);
        }
        int u = 0;
        while (!like(thm(u).concl, thm(t).concl)
            || !thm(t).hyps.keySet().containsAll(thm(u).hyps.keySet())) {
            u++;
        }
        return answer(u);
    }

    private static int mostLambdas(Tm t) {
        return t instanceof App a ? Math.max(mostLambdas(a.f), mostLambdas(a.x))
            : t instanceof Lam l ? 1 + mostLambdas(l.body) : 0;
    }

    private int places(Tm t, int what, int around) {
        int here = what == 5 && t instanceof App a && a.f instanceof Lam
            || what == 6 && definition(t) != null || what == 7 && isEta(t, around) ? 1 : 0;
        return t instanceof App a ? here + places(a.f, what, around) + places(a.x, what, around)
            : t instanceof Lam l ? here + places(l.body, what, around + 1) : here;
    }

    public int term(int n, int what) {
        if (what < 0 || what > 7) {
            return refuse(1);
        }
        return attempt(n, true, () -> {
            Tm t = onlyTerm();
            return what == 0 ? sizeOf(t) : what == 1 ? mostLambdas(t)
                : what == 2 ? varBits(List.of(t)) : what == 3 ? constBits(List.of(t))
                : what == 4 ? (t.type().is(Ty.O) ? 1 : 0) : places(t, what, 0);
        });
    }

    private int put(String s) {
        output = s;
        return s.length();
    }

    public int write(int n) {
        return attempt(n, true, () -> put(written(onlyTerm(), false)));
    }

    public int writeType(int n) {
        return attempt(n, true, () -> put(onlyTerm().type().text));
    }

    public int writeOf(int t, int i) {
        if (!has(t) || i < -1 || i >= thm(t).hyps.size()) {
            return refuse(1);
        }
        return answer(put(i < 0 ? written(thm(t).concl, false)
            : new ArrayList<>(thm(t).hyps.keySet()).get(i)));
    }

    public int writeSide(int t, int side) {
        if (!has(t) || side < 0 || side > 1) {
            return refuse(1);
        }
        if (thm(t).left() == null) {
            return refuse(5);
        }
        return answer(put(written(side == 0 ? thm(t).left() : thm(t).right(), false)));
    }

    public int octet(int k) {
        return k < 0 ? refuse(1) : answer(k < output.length() ? output.charAt(k) : -2);
    }

    public int refl(int n) {
        return attempt(n, true, () -> kept(rRefl(onlyTerm()), 0));
    }

    public int trans(int t, int u) {
        return !has(t) || !has(u) ? refuse(1)
            : attempt(0, false, () -> kept(rTrans(thm(t), thm(u)), 1));
    }

    public int comb(int t, int u) {
        return !has(t) || !has(u) ? refuse(1)
            : attempt(0, false, () -> kept(rComb(thm(t), thm(u)), 2));
    }

    public int abs(int v, int t) {
        return !has(t) || v < 0 || v >= now.vars.size() ? refuse(1)
            : attempt(0, false, () -> kept(rAbs(var(v), thm(t)), 3));
    }

    public int beta(int n) {
        return attempt(n, true, () -> kept(rBeta(onlyTerm()), 4));
    }

    public int assume(int n) {
        return attempt(n, true, () -> kept(rAssume(onlyTerm()), 5));
    }

    public int eqmp(int t, int u) {
        return !has(t) || !has(u) ? refuse(1)
            : attempt(0, false, () -> kept(rEqmp(thm(t), thm(u)), 6));
    }

    public int deduct(int t, int u) {
        return !has(t) || !has(u) ? refuse(1)
            : attempt(0, false, () -> kept(rDeduct(thm(t), thm(u)), 7));
    }

    public int inst(int t, int v, int n) {
        return !has(t) || v < 0 || v >= now.vars.size() ? refuse(1)
            : attempt(n, true, () -> kept(rInst(thm(t), var(v), onlyTerm()), 8));
    }

    public int eta(int n) {
        return attempt(n, true, () -> kept(rEta(onlyTerm()), 9));
    }

    public int sym(int t) {
        return !has(t) ? refuse(1) : attempt(0, false, () -> kept(rSym(thm(t)), 11));
    }

    public int convert(int n) {
        return attempt(n, true, () -> {
            Cv c = conv(0);
            take(";");
            return kept(c.on(onlyTerm()), 11);
        });
    }

    public int rewrite(int t, int n) {
        return !has(t) ? refuse(1) : attempt(n, true, () -> {
            Cv c = conv(0);
            take("");
            Thm one = c.on(thm(t).concl);
            return kept(one == null ? null : rEqmp(one, thm(t)), 11);
        });
    }

    public int normal(int n) {
        return attempt(n, true, () -> kept(normalConv().on(onlyTerm()), 11));
    }

    public int decide(int n) {
        return attempt(n, true, () -> {
            Tm t = onlyTerm();
            if (leftOf(t) == null) {
                return IS_NOT_SO;
            }
            Thm l = normalConv().on(leftOf(t));
            Thm r = normalConv().on(rightOf(t));
            return like(l.right(), r.right()) ? kept(rTrans(l, rSym(r)), 11) : IS_NOT_SO;
        });
    }

    public int unfold(int t) {
        return !has(t) ? refuse(1) : attempt(0, false, () ->
            kept(rEqmp(repeated(once(this::definition)).on(thm(t).concl), thm(t)), 11));
    }

    public int named(int n) throws NoSuchElementException {
        String name = n < 0 || n > tape.length() ? "" : tape.substring(0, n).replace(' ', '/');
        name = name.replaceAll("^/+|/+$", "");
        int t = name.isEmpty() ? NONE : now.find(name);
        if (t < 0) {
            throw new NoSuchElementException();
        }
        return t;
    }

    public int size() {
        return tape.length();
    }

    public int trouble() {
        return lastTrouble;
    }
}
