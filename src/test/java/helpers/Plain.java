import java.util.ArrayList;
import java.util.Arrays;
import java.util.Comparator;
import java.util.LinkedHashSet;
import java.util.List;
import java.util.Set;
import java.util.TreeMap;
import java.util.TreeSet;
import java.util.Map;

/** The document once more, word by word, without any thought of speed: what FuzzTests compares Thimble with. */
final class Plain {
    private static final Comparator<List<Integer>> IN_ORDER = (x, y) -> {
        for (int k = 0; k < Math.min(x.size(), y.size()); k++) {
            if (!x.get(k).equals(y.get(k))) {
                return x.get(k) - y.get(k);
            }
        }
        return x.size() - y.size();
    };

    private record Relation(int places, TreeSet<List<Integer>> facts) { }

    private record Atom(int relation, List<Integer> terms) { }

    private record Formula(int kind, int relation, List<Integer> terms, List<Integer> named, int v) { }

    private static final class Rule {
        final List<Integer> head;
        List<Atom> atoms = new ArrayList<>();

        Rule(List<Integer> head) {
            this.head = head;
        }
    }

    private final List<Relation> relations = new ArrayList<>();
    private final List<Formula> formulas = new ArrayList<>();
    private final List<Rule> rules = new ArrayList<>();

    // ---- relations

    int relation(int places) {
        argument(places >= 1 && places <= 3);
        state(relations.size() < 6);
        relations.add(new Relation(places, new TreeSet<>(IN_ORDER)));
        return relations.size() - 1;
    }

    int fact(int relation, int a, int b, int c) {
        index(relation, relations.size());
        Relation r = relations.get(relation);
        List<Integer> row = lookedAt(r.places, a, b, c);
        argument(row.stream().allMatch(v -> v >= 0 && v <= 7));
        state(r.facts.contains(row) || r.facts.size() < 24);
        r.facts.add(row);
        return r.facts.size();
    }

    int drop(int relation, int place) {
        index(relation, relations.size());
        Relation r = relations.get(relation);
        index(place, r.facts.size());
        r.facts.remove(new ArrayList<>(r.facts).get(place));
        return r.facts.size();
    }

    int relations() {
        return relations.size();
    }

    int facts(int relation) {
        index(relation, relations.size());
        return relations.get(relation).facts.size();
    }

    int factAt(int relation, int place, int which) {
        index(relation, relations.size());
        Relation r = relations.get(relation);
        index(place, r.facts.size());
        argument(which >= 0 && which < r.places);
        return new ArrayList<>(r.facts).get(place).get(which);
    }

    // ---- formulas

    int atom(int relation, int t, int u, int v) {
        index(relation, relations.size());
        List<Integer> terms = lookedAt(relations.get(relation).places, t, u, v);
        argument(terms.stream().allMatch(Plain::isTerm));
        state(formulas.size() < 40);
        return keep(new Formula(0, relation, terms, List.of(), -1));
    }

    int same(int t, int u) {
        argument(isTerm(t) && isTerm(u));
        state(formulas.size() < 40);
        return keep(new Formula(1, -1, List.of(t, u), List.of(), -1));
    }

    int not(int a) {
        index(a, formulas.size());
        return keepWithinLength(new Formula(2, -1, List.of(), List.of(a), -1));
    }

    int join(boolean isBoth, int a, int b) {
        index(a, formulas.size());
        index(b, formulas.size());
        return keepWithinLength(new Formula(isBoth ? 3 : 4, -1, List.of(), List.of(a, b), -1));
    }

    int bind(boolean isSome, int v, int a) {
        index(a, formulas.size());
        argument(v >= 0 && v <= 5);
        argument(depth(formulas.get(a)) + 1 <= 3);
        return keepWithinLength(new Formula(isSome ? 5 : 6, -1, List.of(), List.of(a), v));
    }

    int formulas() {
        return formulas.size();
    }

    int ofFormula(int formula, int what) {
        index(formula, formulas.size());
        argument(what >= 0 && what <= 5);
        Formula f = formulas.get(formula);
        return switch (what) {
            case 0 -> f.kind;
            case 1 -> setOf(free(f));
            case 2 -> depth(f);
            case 3 -> setOf(up(f));
            case 4 -> setOf(down(f));
            default -> setOf(domain(f));
        };
    }

    boolean isSafe(int formula) {
        return loose(formula) == -1 && up(formulas.get(formula)).containsAll(free(formulas.get(formula)));
    }

    int loose(int formula) {
        index(formula, formulas.size());
        Set<Integer> within = new TreeSet<>();
        addWithin(formula, within);
        for (int g : within) {
            Formula f = formulas.get(g);
            if (f.kind == 5 && !up(named(f, 0)).contains(f.v) || f.kind == 6 && !down(named(f, 0)).contains(f.v)) {
                return g;
            }
        }
        return -1;
    }

    int answers(int formula) {
        index(formula, formulas.size());
        state(free(formulas.get(formula)).size() <= 3);
        return answersOf(formulas.get(formula)).size();
    }

    int answer(int formula, int place, int which) {
        index(formula, formulas.size());
        int free = free(formulas.get(formula)).size();
        if (free <= 3) {
            index(place, answers(formula));
        }
        state(free <= 3);
        argument(which >= 0 && which < free);
        return answersOf(formulas.get(formula)).get(place).get(which);
    }

    // ---- rules

    int rule(int many, int t, int u, int v) {
        argument(many >= 0 && many <= 3);
        List<Integer> head = lookedAt(many, t, u, v);
        argument(head.stream().allMatch(Plain::isTerm));
        state(rules.size() < 8);
        rules.add(new Rule(head));
        return rules.size() - 1;
    }

    int add(int rule, int relation, int t, int u, int v) {
        index(rule, rules.size());
        index(relation, relations.size());
        List<Integer> terms = lookedAt(relations.get(relation).places, t, u, v);
        argument(terms.stream().allMatch(Plain::isTerm));
        state(rules.get(rule).atoms.size() < 5);
        rules.get(rule).atoms.add(new Atom(relation, terms));
        return rules.get(rule).atoms.size();
    }

    int rules() {
        return rules.size();
    }

    int ofRule(int rule, int what) {
        index(rule, rules.size());
        argument(what >= 0 && what <= 2);
        Rule r = rules.get(rule);
        return what == 0 ? r.atoms.size() : what == 1 ? (isGrounded(r) ? 1 : 0) : shortened(r).size();
    }

    int tells(int rule) {
        index(rule, rules.size());
        state(isGrounded(rules.get(rule)));
        return told(rules.get(rule)).size();
    }

    int row(int rule, int place, int which) {
        index(rule, rules.size());
        Rule r = rules.get(rule);
        if (isGrounded(r)) {
            index(place, told(r).size());
        }
        state(isGrounded(r));
        argument(which >= 0 && which < r.head.size());
        return told(r).get(place).get(which);
    }

    int order(int rule, int place, int what) {
        index(rule, rules.size());
        Rule r = rules.get(rule);
        index(place, r.atoms.size());
        argument(what == 0 || what == 1);
        List<Integer> order = orderOf(r);
        if (what == 0) {
            return order.get(place);
        }
        List<Atom> came = new ArrayList<>();
        for (int k = 0; k <= place; k++) {
            came.add(r.atoms.get(order.get(k)));
        }
        return held(came).size();
    }

    boolean isWithin(int p, int q) {
        index(p, rules.size());
        index(q, rules.size());
        return map(rules.get(q).head, rules.get(q).atoms, rules.get(p).head, rules.get(p).atoms) != null;
    }

    int image(int p, int q, int v) {
        index(p, rules.size());
        index(q, rules.size());
        argument(v >= 0 && v <= 5);
        Map<Integer, Integer> map =
                map(rules.get(q).head, rules.get(q).atoms, rules.get(p).head, rules.get(p).atoms);
        return map == null || !map.containsKey(v) ? -1 : map.get(v);
    }

    int shorten(int rule) {
        index(rule, rules.size());
        Rule r = rules.get(rule);
        int before = r.atoms.size();
        r.atoms = shortened(r);
        return before - r.atoms.size();
    }

    int translate(int rule) {
        index(rule, rules.size());
        Rule r = rules.get(rule);
        state(!r.atoms.isEmpty() && isGrounded(r));
        TreeSet<Integer> hidden = variables(r.atoms);
        hidden.removeAll(r.head);
        state(hidden.size() <= 3);
        state(formulas.size() + r.atoms.size() + (r.atoms.size() - 1) + hidden.size() <= 40);
        List<Integer> parts = new ArrayList<>();
        for (Atom a : r.atoms) {
            parts.add(keep(new Formula(0, a.relation, a.terms, List.of(), -1)));
        }
        int soFar = parts.get(0);
        for (int k = 1; k < parts.size(); k++) {
            soFar = join(true, soFar, parts.get(k));
        }
        for (int v : hidden.descendingSet()) {
            soFar = bind(true, v, soFar);
        }
        return soFar;
    }

    // ---- what would be

    int answersWith(int formula, int relation, int a, int b, int c) {
        index(formula, formulas.size());
        index(relation, relations.size());
        Relation r = relations.get(relation);
        List<Integer> row = lookedAt(r.places, a, b, c);
        argument(row.stream().allMatch(v -> v >= 0 && v <= 7));
        state(free(formulas.get(formula)).size() <= 3);
        TreeSet<List<Integer>> others = new TreeSet<>(r.facts);
        if (!others.remove(row)) {
            others.add(row);
        }
        relations.set(relation, new Relation(r.places, others));
        int many = answersOf(formulas.get(formula)).size();
        relations.set(relation, r);
        return many;
    }

    double share(int formula) {
        int many = answers(formula);
        Formula f = formulas.get(formula);
        double rows = Math.pow(domain(f).size(), free(f).size());
        return rows == 0 ? 0 : many / rows;
    }

    long digest() {
        List<Long> all = new ArrayList<>();
        all.add((long) relations());
        for (Relation r : relations) {
            all.add((long) r.facts.size());
            r.facts.forEach(row -> row.forEach(value -> all.add((long) value)));
        }
        all.add((long) formulas());
        for (int f = 0; f < formulas(); f++) {
            for (int what = 0; what <= 5; what++) {
                all.add((long) ofFormula(f, what));
            }
            all.add(isSafe(f) ? 1L : 0L);
            all.add((long) loose(f));
            if (free(formulas.get(f)).size() <= 2) {
                all.add((long) answers(f));
            }
        }
        all.add((long) rules());
        for (int r = 0; r < rules(); r++) {
            for (int what = 0; what <= 2; what++) {
                all.add((long) ofRule(r, what));
            }
            if (isGrounded(rules.get(r))) {
                all.add((long) tells(r));
            }
            for (int place = 0; place < rules.get(r).atoms.size(); place++) {
                all.add((long) order(r, place, 0));
                all.add((long) order(r, place, 1));
            }
        }
        for (int p = 0; p < rules(); p++) {
            for (int q = 0; q < rules(); q++) {
                all.add(isWithin(p, q) ? 1L : 0L);
            }
        }
        long d = 58081;
        for (long x : all) {
            d = d * 31 + x;
        }
        return d;
    }

    // ---- what the words in capitals mean

    private static void index(int k, int size) {
        if (k < 0 || k >= size) {
            throw new IndexOutOfBoundsException();
        }
    }

    private static void argument(boolean isRight) {
        if (!isRight) {
            throw new IllegalArgumentException();
        }
    }

    private static void state(boolean isRight) {
        if (!isRight) {
            throw new IllegalStateException();
        }
    }

    private static boolean isTerm(int t) {
        return t >= 0 && t <= 5 || t >= 10 && t <= 17;
    }

    private static List<Integer> lookedAt(int many, int a, int b, int c) {
        return List.copyOf(Arrays.asList(a, b, c).subList(0, many));
    }

    private static int setOf(Set<Integer> set) {
        return set.stream().mapToInt(k -> 1 << k).sum();
    }

    private int keep(Formula f) {
        formulas.add(f);
        return formulas.size() - 1;
    }

    private int keepWithinLength(Formula f) {
        state(formulas.size() < 40);
        state(length(f) <= 40);
        return keep(f);
    }

    private Formula named(Formula f, int k) {
        return formulas.get(f.named.get(k));
    }

    private void addWithin(int formula, Set<Integer> within) {
        within.add(formula);
        formulas.get(formula).named.forEach(a -> addWithin(a, within));
    }

    private int length(Formula f) {
        return 1 + f.named.stream().mapToInt(a -> length(formulas.get(a))).sum();
    }

    private int depth(Formula f) {
        int most = f.named.stream().mapToInt(a -> depth(formulas.get(a))).max().orElse(0);
        return f.kind >= 5 ? most + 1 : most;
    }

    private static TreeSet<Integer> variablesOf(List<Integer> terms) {
        TreeSet<Integer> set = new TreeSet<>(terms);
        set.removeIf(t -> t >= 10);
        return set;
    }

    private TreeSet<Integer> free(Formula f) {
        TreeSet<Integer> set = variablesOf(f.terms);
        f.named.forEach(a -> set.addAll(free(formulas.get(a))));
        set.remove(f.v);
        return set;
    }

    private TreeSet<Integer> up(Formula f) {
        TreeSet<Integer> set = new TreeSet<>();
        if (f.kind == 0) {
            set.addAll(variablesOf(f.terms));
        } else if (f.kind == 1) {
            boolean isOfBothKinds = (f.terms.get(0) < 10) != (f.terms.get(1) < 10);
            set.addAll(isOfBothKinds ? variablesOf(f.terms) : Set.of());
        } else if (f.kind == 2) {
            set.addAll(down(named(f, 0)));
        } else if (f.kind == 3) {
            set.addAll(up(named(f, 0)));
            set.addAll(up(named(f, 1)));
            Set<Integer> bound = new TreeSet<>(set);
            for (int k = 0; k < 2; k++) {
                List<Integer> terms = named(f, k).kind == 1 ? named(f, k).terms : List.of(10, 10);
                if (terms.get(0) < 10 && terms.get(1) < 10) {
                    if (bound.contains(terms.get(0))) {
                        set.add(terms.get(1));
                    }
                    if (bound.contains(terms.get(1))) {
                        set.add(terms.get(0));
                    }
                }
            }
        } else if (f.kind == 4) {
            set.addAll(up(named(f, 0)));
            set.retainAll(up(named(f, 1)));
        } else if (f.kind == 5) {
            set.addAll(up(named(f, 0)));
            set.remove(f.v);
        }
        return set;
    }

    private TreeSet<Integer> down(Formula f) {
        TreeSet<Integer> set = new TreeSet<>();
        if (f.kind == 2) {
            set.addAll(up(named(f, 0)));
        } else if (f.kind == 3) {
            set.addAll(down(named(f, 0)));
            set.retainAll(down(named(f, 1)));
        } else if (f.kind == 4) {
            set.addAll(down(named(f, 0)));
            set.addAll(down(named(f, 1)));
        } else if (f.kind == 6) {
            set.addAll(down(named(f, 0)));
            set.remove(f.v);
        }
        return set;
    }

    private TreeSet<Integer> domain(Formula f) {
        TreeSet<Integer> set = new TreeSet<>();
        relations.forEach(r -> r.facts.forEach(set::addAll));
        addValues(f, set);
        return set;
    }

    private void addValues(Formula f, Set<Integer> set) {
        f.terms.stream().filter(t -> t >= 10).forEach(t -> set.add(t - 10));
        f.named.forEach(a -> addValues(formulas.get(a), set));
    }

    private static int valueOf(int term, int[] value) {
        return term >= 10 ? term - 10 : value[term];
    }

    private boolean holds(Formula f, int[] value, Set<Integer> domain) {
        switch (f.kind) {
            case 0:
                return relations.get(f.relation).facts.contains(
                        f.terms.stream().map(t -> valueOf(t, value)).toList());
            case 1:
                return valueOf(f.terms.get(0), value) == valueOf(f.terms.get(1), value);
            case 2:
                return !holds(named(f, 0), value, domain);
            case 3:
                return holds(named(f, 0), value, domain) && holds(named(f, 1), value, domain);
            case 4:
                return holds(named(f, 0), value, domain) || holds(named(f, 1), value, domain);
            default:
                boolean isSome = f.kind == 5;
                for (int w : domain) {
                    int[] inner = value.clone();
                    inner[f.v] = w;
                    if (holds(named(f, 0), inner, domain) == isSome) {
                        return isSome;
                    }
                }
                return !isSome;
        }
    }

    private List<List<Integer>> answersOf(Formula f) {
        List<List<Integer>> found = new ArrayList<>();
        Set<Integer> domain = domain(f);
        addAnswers(f, new ArrayList<>(free(f)), new ArrayList<>(), domain, found);
        return found;
    }

    private void addAnswers(Formula f, List<Integer> free, List<Integer> row, Set<Integer> domain,
            List<List<Integer>> found) {
        if (row.size() == free.size()) {
            int[] value = {-1, -1, -1, -1, -1, -1};
            for (int k = 0; k < free.size(); k++) {
                value[free.get(k)] = row.get(k);
            }
            if (holds(f, value, domain)) {
                found.add(List.copyOf(row));
            }
            return;
        }
        for (int w : domain) {
            row.add(w);
            addAnswers(f, free, row, domain, found);
            row.remove(row.size() - 1);
        }
    }

    private static TreeSet<Integer> variables(List<Atom> atoms) {
        TreeSet<Integer> set = new TreeSet<>();
        atoms.forEach(a -> set.addAll(variablesOf(a.terms)));
        return set;
    }

    private static boolean isGrounded(Rule r) {
        return variables(r.atoms).containsAll(variablesOf(r.head));
    }

    /** With which VALUES of their VARIABLES (by number) all the ATOMS HOLD. */
    private Set<TreeMap<Integer, Integer>> held(List<Atom> atoms) {
        Set<TreeMap<Integer, Integer>> all = new LinkedHashSet<>();
        all.add(new TreeMap<>());
        for (Atom a : atoms) {
            Set<TreeMap<Integer, Integer>> more = new LinkedHashSet<>();
            for (TreeMap<Integer, Integer> known : all) {
                for (List<Integer> fact : relations.get(a.relation).facts) {
                    TreeMap<Integer, Integer> with = new TreeMap<>(known);
                    boolean isRight = true;
                    for (int k = 0; k < fact.size(); k++) {
                        int term = a.terms.get(k);
                        int due = term >= 10 ? term - 10 : with.getOrDefault(term, fact.get(k));
                        isRight = isRight && due == fact.get(k);
                        if (term < 10) {
                            with.put(term, due);
                        }
                    }
                    if (isRight) {
                        more.add(with);
                    }
                }
            }
            all = more;
        }
        return all;
    }

    private List<List<Integer>> told(Rule r) {
        TreeSet<List<Integer>> rows = new TreeSet<>(IN_ORDER);
        for (TreeMap<Integer, Integer> known : held(r.atoms)) {
            rows.add(r.head.stream().map(t -> t >= 10 ? t - 10 : known.get(t)).toList());
        }
        return new ArrayList<>(rows);
    }

    private List<Integer> orderOf(Rule r) {
        List<Integer> left = new ArrayList<>();
        for (int k = 0; k < r.atoms.size(); k++) {
            left.add(k);
        }
        List<Integer> order = new ArrayList<>();
        Set<Integer> known = new TreeSet<>();
        while (!left.isEmpty()) {
            Comparator<Integer> byKnown = Comparator.comparing(
                    k -> -r.atoms.get(k).terms.stream().filter(t -> t >= 10 || known.contains(t)).count());
            Comparator<Integer> byFacts = Comparator.comparing(
                    k -> relations.get(r.atoms.get(k).relation).facts.size());
            Integer next = left.stream().min(byKnown.thenComparing(byFacts).thenComparing(k -> k)).get();
            left.remove(next);
            order.add(next);
            known.addAll(variablesOf(r.atoms.get(next).terms));
        }
        return order;
    }

    /** Tries all choices of an ATOM of p for each ATOM of q, in order; null if none is a MAP. */
    private static Map<Integer, Integer> map(List<Integer> headQ, List<Atom> q, List<Integer> headP, List<Atom> p) {
        int choices = 1;
        for (int k = 0; k < q.size(); k++) {
            choices *= p.size();
        }
        for (int choice = 0; choice < choices; choice++) {
            int[] target = new int[q.size()];
            int left = choice;
            for (int k = q.size() - 1; k >= 0; k--) {
                target[k] = left % p.size();
                left /= p.size();
            }
            Map<Integer, Integer> map = new TreeMap<>();
            boolean isMap = headQ.size() == headP.size();
            for (int k = 0; k < q.size() && isMap; k++) {
                Atom a = q.get(k);
                Atom b = p.get(target[k]);
                isMap = a.relation == b.relation;
                for (int i = 0; i < a.terms.size() && isMap; i++) {
                    if (a.terms.get(i) < 10) {
                        map.putIfAbsent(a.terms.get(i), b.terms.get(i));
                    }
                    isMap = map.getOrDefault(a.terms.get(i), a.terms.get(i)).equals(b.terms.get(i));
                }
            }
            for (int i = 0; i < headQ.size() && isMap; i++) {
                isMap = map.getOrDefault(headQ.get(i), headQ.get(i)).equals(headP.get(i));
            }
            if (isMap) {
                return map;
            }
        }
        return null;
    }

    private static List<Atom> shortened(Rule r) {
        List<Atom> atoms = r.atoms;
        boolean isGoingOn = true;
        while (isGoingOn) {
            isGoingOn = false;
            for (int k = 0; k < atoms.size() && !isGoingOn; k++) {
                List<Atom> without = new ArrayList<>(atoms);
                without.remove(k);
                if (map(r.head, atoms, r.head, without) != null) {
                    atoms = without;
                    isGoingOn = true;
                }
            }
        }
        return new ArrayList<>(atoms);
    }
}
