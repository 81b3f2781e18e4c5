/** A small calculus of relations: facts, formulas over them, and rules. */
public final class Thimble {
    private static final int MOST_RELATIONS = 6;
    private static final int MOST_PLACES = 3;
    private static final int MOST_FACTS = 24;
    private static final int MOST_FORMULAS = 40;
    private static final int MOST_LENGTH = 40;
    private static final int MOST_DEPTH = 3;
    private static final int MOST_FREE = 3;
    private static final int MOST_FREE_IN_DIGEST = 2;
    private static final int MOST_RULES = 8;
    private static final int MOST_ATOMS = 5;

    private static final int VARIABLES = 6;
    private static final int VALUES = 8;
    /** A VALUE fits in so many bits, so a row of VALUES is one number whose order is that of the rows. */
    private static final int VALUE_BITS = 3;
    /** The TERM of the VALUE 0. */
    private static final int FIRST_VALUE = 10;

    private static final int ATOM = 0;
    private static final int SAME = 1;
    private static final int NOT = 2;
    private static final int BOTH = 3;
    private static final int EITHER = 4;
    private static final int SOME = 5;
    private static final int EVERY = 6;

    private final Relation[] relations = new Relation[MOST_RELATIONS];
    private int relationCount = 0;
    private final Formula[] formulas = new Formula[MOST_FORMULAS];
    private int formulaCount = 0;
    private final Rule[] rules = new Rule[MOST_RULES];
    private int ruleCount = 0;

    private final Lanes lanes = new Lanes();
    private final Walk walk = new Walk();
    private final MapSearch search = new MapSearch();

    public Thimble() {
    }

    // ---- relations

    public int relation(int places) throws IllegalArgumentException, IllegalStateException {
        if (places < 1 || places > MOST_PLACES) {
            throw new IllegalArgumentException("a relation has 1 to 3 places");
        }
        if (relationCount >= MOST_RELATIONS) {
            throw new IllegalStateException("there are 6 relations");
        }
        relations[relationCount] = new Relation(places);
        relationCount++;
        return relationCount - 1;
    }

    public int fact(int relation, int a, int b, int c)
            throws IndexOutOfBoundsException, IllegalArgumentException, IllegalStateException {
        Relation r = relationAt(relation);
        needValues(r.places, a, b, c);
        int row = rowOf(r.places, a, b, c);
        if (!r.has(row)) {
            if (r.many >= MOST_FACTS) {
                throw new IllegalStateException("there are 24 facts");
            }
            r.toggle(row);
        }
        return r.many;
    }

    public int drop(int relation, int place) throws IndexOutOfBoundsException {
        Relation r = relationAt(relation);
        needFact(r, place);
        r.toggle(r.rows[place]);
        return r.many;
    }

    public int relations() {
        return relationCount;
    }

    public int facts(int relation) throws IndexOutOfBoundsException {
        return relationAt(relation).many;
    }

    public int factAt(int relation, int place, int which)
            throws IndexOutOfBoundsException, IllegalArgumentException {
        Relation r = relationAt(relation);
        needFact(r, place);
        if (which < 0 || which >= r.places) {
            throw new IllegalArgumentException("the relation has no such place");
        }
        return r.valueAt(place, which);
    }

    // ---- formulas

    public int atom(int relation, int t, int u, int v)
            throws IndexOutOfBoundsException, IllegalArgumentException, IllegalStateException {
        Relation r = relationAt(relation);
        needTerms(r.places, t, u, v);
        needRoomForFormulas(1);
        return keep(Formula.ofAtom(new Atom(r, new Terms(r.places, t, u, v))));
    }

    public int same(int t, int u) throws IllegalArgumentException, IllegalStateException {
        needTerms(2, t, u, 0);
        needRoomForFormulas(1);
        return keep(Formula.ofSame(new Terms(2, t, u, 0)));
    }

    public int not(int a) throws IndexOutOfBoundsException, IllegalStateException {
        Formula inner = formulaAt(a);
        needRoomForFormulas(1);
        needLength(1 + inner.length);
        return keep(Formula.ofNot(inner));
    }

    public int join(boolean isBoth, int a, int b) throws IndexOutOfBoundsException, IllegalStateException {
        Formula first = formulaAt(a);
        Formula second = formulaAt(b);
        needRoomForFormulas(1);
        needLength(1 + first.length + second.length);
        return keep(isBoth ? Formula.ofBoth(first, second) : Formula.ofEither(first, second));
    }

    public int bind(boolean isSome, int v, int a)
            throws IndexOutOfBoundsException, IllegalArgumentException, IllegalStateException {
        Formula inner = formulaAt(a);
        if (!isVariable(v)) {
            throw new IllegalArgumentException("a variable is 0 to 5");
        }
        if (inner.depth >= MOST_DEPTH) {
            throw new IllegalArgumentException("the depth is at most 3");
        }
        needRoomForFormulas(1);
        needLength(1 + inner.length);
        return keep(isSome ? Formula.ofSome(v, inner) : Formula.ofEvery(v, inner));
    }

    public int formulas() {
        return formulaCount;
    }

    public int ofFormula(int formula, int what) throws IndexOutOfBoundsException, IllegalArgumentException {
        Formula f = formulaAt(formula);
        switch (what) {
            case 0:
                return f.kind;
            case 1:
                return f.free;
            case 2:
                return f.depth;
            case 3:
                return f.up;
            case 4:
                return f.down;
            case 5:
                return domainOf(f);
            default:
                throw new IllegalArgumentException("what is 0 to 5");
        }
    }

    public boolean isSafe(int formula) throws IndexOutOfBoundsException {
        Formula f = formulaAt(formula);
        return f.loose < 0 && (f.free & ~f.up) == 0;
    }

    public int loose(int formula) throws IndexOutOfBoundsException {
        return formulaAt(formula).loose;
    }

    public int answers(int formula) throws IndexOutOfBoundsException, IllegalStateException {
        Formula f = formulaAt(formula);
        needFewFree(f);
        return lanes.answersOf(f, domainOf(f)).many;
    }

    public int answer(int formula, int place, int which)
            throws IndexOutOfBoundsException, IllegalStateException, IllegalArgumentException {
        Formula f = formulaAt(formula);
        needFewFree(f);
        return valueOfRow(lanes.answersOf(f, domainOf(f)), place, which, Integer.bitCount(f.free));
    }

    // ---- rules

    public int rule(int many, int t, int u, int v) throws IllegalArgumentException, IllegalStateException {
        if (many < 0 || many > MOST_PLACES) {
            throw new IllegalArgumentException("a head has 0 to 3 terms");
        }
        needTerms(many, t, u, v);
        if (ruleCount >= MOST_RULES) {
            throw new IllegalStateException("there are 8 rules");
        }
        rules[ruleCount] = new Rule(new Terms(many, t, u, v));
        ruleCount++;
        return ruleCount - 1;
    }

    public int add(int rule, int relation, int t, int u, int v)
            throws IndexOutOfBoundsException, IllegalArgumentException, IllegalStateException {
        Rule told = ruleAt(rule);
        Relation r = relationAt(relation);
        needTerms(r.places, t, u, v);
        if (told.many >= MOST_ATOMS) {
            throw new IllegalStateException("the rule has 5 atoms");
        }
        told.atoms[told.many] = new Atom(r, new Terms(r.places, t, u, v));
        told.many++;
        return told.many;
    }

    public int rules() {
        return ruleCount;
    }

    public int ofRule(int rule, int what) throws IndexOutOfBoundsException, IllegalArgumentException {
        Rule told = ruleAt(rule);
        switch (what) {
            case 0:
                return told.many;
            case 1:
                return told.isGrounded() ? 1 : 0;
            case 2:
                return Integer.bitCount(search.shortened(told));
            default:
                throw new IllegalArgumentException("what is 0 to 2");
        }
    }

    public int tells(int rule) throws IndexOutOfBoundsException, IllegalStateException {
        Rule told = ruleAt(rule);
        needGrounded(told);
        return walk.tell(told).many;
    }

    public int row(int rule, int place, int which)
            throws IndexOutOfBoundsException, IllegalStateException, IllegalArgumentException {
        Rule told = ruleAt(rule);
        needGrounded(told);
        return valueOfRow(walk.tell(told), place, which, told.head.many);
    }

    public int order(int rule, int place, int what) throws IndexOutOfBoundsException, IllegalArgumentException {
        Rule told = ruleAt(rule);
        if (place < 0 || place >= told.many) {
            throw new IndexOutOfBoundsException("no such place in the order");
        }
        if (what != 0 && what != 1) {
            throw new IllegalArgumentException("what is 0 or 1");
        }
        if (what == 0) {
            walk.arrange(told);
            return walk.order[place];
        }
        walk.measure(told);
        return walk.sizes[place];
    }

    public boolean isWithin(int p, int q) throws IndexOutOfBoundsException {
        Rule to = ruleAt(p);
        Rule from = ruleAt(q);
        return search.finds(from, from.allAtoms(), to, to.allAtoms());
    }

    public int image(int p, int q, int v) throws IndexOutOfBoundsException, IllegalArgumentException {
        Rule to = ruleAt(p);
        Rule from = ruleAt(q);
        if (!isVariable(v)) {
            throw new IllegalArgumentException("a variable is 0 to 5");
        }
        return search.finds(from, from.allAtoms(), to, to.allAtoms()) ? search.imageOf(v) : -1;
    }

    public int shorten(int rule) throws IndexOutOfBoundsException {
        Rule told = ruleAt(rule);
        int before = told.many;
        told.keepAtoms(search.shortened(told));
        return before - told.many;
    }

    public int translate(int rule) throws IndexOutOfBoundsException, IllegalStateException {
        Rule told = ruleAt(rule);
        if (told.many == 0) {
            throw new IllegalStateException("the rule has no atoms");
        }
        needGrounded(told);
        int hidden = told.variablesIn(told.allAtoms()) & ~told.head.variables;
        if (Integer.bitCount(hidden) > MOST_DEPTH) {
            throw new IllegalStateException("more than 3 variables are not in the head");
        }
        needRoomForFormulas(2 * told.many - 1 + Integer.bitCount(hidden));
        return keepTranslation(told, hidden);
    }

    // ---- what would be (nothing is changed)

    public int answersWith(int formula, int relation, int a, int b, int c)
            throws IndexOutOfBoundsException, IllegalArgumentException, IllegalStateException {
        Formula f = formulaAt(formula);
        Relation r = relationAt(relation);
        needValues(r.places, a, b, c);
        needFewFree(f);
        int row = rowOf(r.places, a, b, c);
        r.toggle(row);
        int many = lanes.answersOf(f, domainOf(f)).many;
        r.toggle(row);
        return many;
    }

    public double share(int formula) throws IndexOutOfBoundsException, IllegalStateException {
        Formula f = formulaAt(formula);
        needFewFree(f);
        int values = Integer.bitCount(domainOf(f));
        int free = Integer.bitCount(f.free);
        int rows = 1;
        for (int k = 0; k < free; k++) {
            rows *= values;
        }
        if (rows == 0) {
            return 0;
        }
        return (double) lanes.answersOf(f, domainOf(f)).many / (double) rows;
    }

    public long digest() {
        long d = mix(58081, relationCount);
        for (int r = 0; r < relationCount; r++) {
            d = mixRelation(d, relations[r]);
        }
        d = mix(d, formulaCount);
        for (int f = 0; f < formulaCount; f++) {
            d = mixFormula(d, f);
        }
        d = mix(d, ruleCount);
        for (int r = 0; r < ruleCount; r++) {
            d = mixRule(d, rules[r]);
        }
        for (int p = 0; p < ruleCount; p++) {
            for (int q = 0; q < ruleCount; q++) {
                d = mix(d, isWithin(p, q) ? 1 : 0);
            }
        }
        return d;
    }

    private static long mix(long d, long x) {
        return d * 31 + x;
    }

    private static long mixRelation(long before, Relation r) {
        long d = mix(before, r.many);
        for (int fact = 0; fact < r.many; fact++) {
            for (int place = 0; place < r.places; place++) {
                d = mix(d, r.valueAt(fact, place));
            }
        }
        return d;
    }

    private long mixFormula(long before, int formula) {
        long d = before;
        for (int what = 0; what <= 5; what++) {
            d = mix(d, ofFormula(formula, what));
        }
        d = mix(d, isSafe(formula) ? 1 : 0);
        d = mix(d, loose(formula));
        Formula f = formulas[formula];
        if (Integer.bitCount(f.free) <= MOST_FREE_IN_DIGEST) {
            d = mix(d, lanes.answersOf(f, domainOf(f)).many);
        }
        return d;
    }

    private long mixRule(long before, Rule told) {
        boolean isGrounded = told.isGrounded();
        long d = mix(before, told.many);
        d = mix(d, isGrounded ? 1 : 0);
        d = mix(d, Integer.bitCount(search.shortened(told)));
        if (isGrounded) {
            d = mix(d, walk.tell(told).many);
        }
        walk.measure(told);
        for (int place = 0; place < told.many; place++) {
            d = mix(d, walk.order[place]);
            d = mix(d, walk.sizes[place]);
        }
        return d;
    }

    private Relation relationAt(int relation) {
        if (relation < 0 || relation >= relationCount) {
            throw new IndexOutOfBoundsException("no such relation");
        }
        return relations[relation];
    }

    private Formula formulaAt(int formula) {
        if (formula < 0 || formula >= formulaCount) {
            throw new IndexOutOfBoundsException("no such formula");
        }
        return formulas[formula];
    }

    private Rule ruleAt(int rule) {
        if (rule < 0 || rule >= ruleCount) {
            throw new IndexOutOfBoundsException("no such rule");
        }
        return rules[rule];
    }

    private static void needFact(Relation r, int place) {
        if (place < 0 || place >= r.many) {
            throw new IndexOutOfBoundsException("no such fact");
        }
    }

    private static void needValues(int places, int a, int b, int c) {
        if (!isValue(a) || places > 1 && !isValue(b) || places > 2 && !isValue(c)) {
            throw new IllegalArgumentException("a value is 0 to 7");
        }
    }

    private static void needTerms(int many, int t, int u, int v) {
        if (many > 0 && !isTerm(t) || many > 1 && !isTerm(u) || many > 2 && !isTerm(v)) {
            throw new IllegalArgumentException("a term is 0 to 5 or 10 to 17");
        }
    }

    private void needRoomForFormulas(int more) {
        if (formulaCount + more > MOST_FORMULAS) {
            throw new IllegalStateException("there would be more than 40 formulas");
        }
    }

    private static void needLength(int length) {
        if (length > MOST_LENGTH) {
            throw new IllegalStateException("the length would be above 40");
        }
    }

    private static void needFewFree(Formula f) {
        if (Integer.bitCount(f.free) > MOST_FREE) {
            throw new IllegalStateException("more than 3 variables are free");
        }
    }

    private static void needGrounded(Rule rule) {
        if (!rule.isGrounded()) {
            throw new IllegalStateException("the rule is not grounded");
        }
    }

    private static int valueOfRow(RowSet rows, int place, int which, int width) {
        if (place < 0 || place >= rows.many) {
            throw new IndexOutOfBoundsException("no such row");
        }
        if (which < 0 || which >= width) {
            throw new IllegalArgumentException("the row has no such value");
        }
        return rows.at(place) >> VALUE_BITS * (width - 1 - which) & VALUES - 1;
    }

    private static boolean isVariable(int term) {
        return term >= 0 && term < VARIABLES;
    }

    private static boolean isValue(int value) {
        return value >= 0 && value < VALUES;
    }

    private static boolean isTerm(int term) {
        return isVariable(term) || term >= FIRST_VALUE && term < FIRST_VALUE + VALUES;
    }

    private static boolean isIn(int set, int k) {
        return (set >> k & 1) != 0;
    }

    private static int rowOf(int places, int a, int b, int c) {
        int row = a;
        if (places > 1) {
            row = row << VALUE_BITS | b;
        }
        if (places > 2) {
            row = row << VALUE_BITS | c;
        }
        return row;
    }

    private int keep(Formula f) {
        f.settleLoose(formulaCount);
        formulas[formulaCount] = f;
        formulaCount++;
        return formulaCount - 1;
    }

    private int domainOf(Formula f) {
        int domain = f.values;
        for (int r = 0; r < relationCount; r++) {
            domain |= relations[r].values;
        }
        return domain;
    }

    private int keepTranslation(Rule told, int hidden) {
        int first = formulaCount;
        for (int k = 0; k < told.many; k++) {
            keep(Formula.ofAtom(told.atoms[k]));
        }
        int last = first;
        for (int k = 1; k < told.many; k++) {
            last = keep(Formula.ofBoth(formulas[last], formulas[first + k]));
        }
        for (int v = VARIABLES - 1; v >= 0; v--) {
            if (isIn(hidden, v)) {
                last = keep(Formula.ofSome(v, formulas[last]));
            }
        }
        return last;
    }

    /** The FACTS of a RELATION, sorted, with sets of them (by their places) that make looking them up quick. */
    private static final class Relation {
        final int places;
        /** One more than may stay, as answersWith puts in one for a while. */
        final int[] rows = new int[MOST_FACTS + 1];
        int many = 0;
        int values = 0;
        /** At place * VALUES + value: the FACTS with that VALUE there. */
        final int[] having = new int[MOST_PLACES * VALUES];
        /** At the sum of two places, less 1: the FACTS with the same VALUE at both. */
        final int[] alike = new int[MOST_PLACES];

        Relation(int places) {
            this.places = places;
        }

        boolean has(int row) {
            int at = placeFor(row);
            return at < many && rows[at] == row;
        }

        /** Takes the row away if it is a FACT, and adds it if it is none. */
        void toggle(int row) {
            int at = placeFor(row);
            if (at < many && rows[at] == row) {
                many--;
                for (int k = at; k < many; k++) {
                    rows[k] = rows[k + 1];
                }
            } else if (many < rows.length) {
                for (int k = many; k > at; k--) {
                    rows[k] = rows[k - 1];
                }
                rows[at] = row;
                many++;
            }
            mark();
        }

        int valueAt(int fact, int place) {
            return rows[fact] >> VALUE_BITS * (places - 1 - place) & VALUES - 1;
        }

        private int placeFor(int row) {
            int at = 0;
            while (at < many && rows[at] < row) {
                at++;
            }
            return at;
        }

        private void mark() {
            values = 0;
            for (int k = 0; k < having.length; k++) {
                having[k] = 0;
            }
            for (int k = 0; k < alike.length; k++) {
                alike[k] = 0;
            }
            for (int fact = 0; fact < many; fact++) {
                for (int place = 0; place < places; place++) {
                    markPlace(fact, place);
                }
            }
        }

        private void markPlace(int fact, int place) {
            int value = valueAt(fact, place);
            values |= 1 << value;
            having[place * VALUES + value] |= 1 << fact;
            for (int other = 0; other < place; other++) {
                if (valueAt(fact, other) == value) {
                    alike[place + other - 1] |= 1 << fact;
                }
            }
        }
    }

    /** The TERMS of an ATOM, of SAME or of a HEAD; those past the last one are not looked at. */
    private static final class Terms {
        final int many;
        final int[] term;
        final int variables;
        final int values;

        Terms(int many, int t, int u, int v) {
            this.many = many;
            term = new int[] {t, u, v};
            int variablesSeen = 0;
            int valuesSeen = 0;
            for (int k = 0; k < many; k++) {
                if (isVariable(term[k])) {
                    variablesSeen |= 1 << term[k];
                } else {
                    valuesSeen |= 1 << term[k] - FIRST_VALUE;
                }
            }
            variables = variablesSeen;
            values = valuesSeen;
        }

        /** The VALUE of the TERM k, or -1 if it is a VARIABLE whose VALUE is not known. */
        int valueOf(int k, int[] valueOfVariable) {
            return term[k] < FIRST_VALUE ? valueOfVariable[term[k]] : term[k] - FIRST_VALUE;
        }
    }

    private static final class Atom {
        final Relation relation;
        final Terms terms;

        Atom(Relation relation, Terms terms) {
            this.relation = relation;
            this.terms = terms;
        }

        /** The set of the FACTS that go with the VALUES that are known. */
        int matching(int[] valueOfVariable) {
            int facts = (1 << relation.many) - 1;
            for (int place = 0; place < terms.many; place++) {
                int value = terms.valueOf(place, valueOfVariable);
                if (value >= 0) {
                    facts &= relation.having[place * VALUES + value];
                } else {
                    facts &= alikeBefore(place);
                }
            }
            return facts;
        }

        /** The set of the FACTS in which the TERM at the place is what it was at the places before. */
        private int alikeBefore(int place) {
            int facts = -1;
            for (int other = 0; other < place; other++) {
                if (terms.term[other] == terms.term[place]) {
                    facts &= relation.alike[place + other - 1];
                }
            }
            return facts;
        }
    }

    private static final class Formula {
        final int kind;
        /** Of ATOM. */
        Atom atom = null;
        /** Of SAME. */
        Terms terms = null;
        /** What is named: a of all but ATOM and SAME, b of BOTH and EITHER. */
        Formula a = null;
        Formula b = null;
        /** Of SOME and EVERY. */
        int v = 0;

        int free = 0;
        int depth = 0;
        int length = 1;
        int up = 0;
        int down = 0;
        /** The VALUES named in it, and in what is named in it, and so on. */
        int values = 0;
        /** The smallest number of what is LOOSE in it, or -1. */
        int loose = -1;

        private Formula(int kind) {
            this.kind = kind;
        }

        static Formula ofAtom(Atom atom) {
            Formula f = new Formula(ATOM);
            f.atom = atom;
            f.free = atom.terms.variables;
            f.up = f.free;
            f.values = atom.terms.values;
            return f;
        }

        static Formula ofSame(Terms terms) {
            Formula f = new Formula(SAME);
            f.terms = terms;
            f.free = terms.variables;
            f.up = terms.values != 0 ? f.free : 0;
            f.values = terms.values;
            return f;
        }

        static Formula ofNot(Formula a) {
            Formula f = over(NOT, a);
            f.free = a.free;
            f.up = a.down;
            f.down = a.up;
            return f;
        }

        static Formula ofBoth(Formula a, Formula b) {
            Formula f = overTwo(BOTH, a, b);
            int up = a.up | b.up;
            f.up = up | a.passedOn(up) | b.passedOn(up);
            f.down = a.down & b.down;
            return f;
        }

        static Formula ofEither(Formula a, Formula b) {
            Formula f = overTwo(EITHER, a, b);
            f.up = a.up & b.up;
            f.down = a.down | b.down;
            return f;
        }

        static Formula ofSome(int v, Formula a) {
            Formula f = overBound(SOME, v, a);
            f.up = a.up & ~(1 << v);
            return f;
        }

        static Formula ofEvery(int v, Formula a) {
            Formula f = overBound(EVERY, v, a);
            f.down = a.down & ~(1 << v);
            return f;
        }

        private static Formula over(int kind, Formula a) {
            Formula f = new Formula(kind);
            f.a = a;
            f.depth = a.depth;
            f.length = 1 + a.length;
            f.values = a.values;
            return f;
        }

        private static Formula overTwo(int kind, Formula a, Formula b) {
            Formula f = over(kind, a);
            f.b = b;
            f.free = a.free | b.free;
            f.depth = Math.max(a.depth, b.depth);
            f.length = 1 + a.length + b.length;
            f.values = a.values | b.values;
            return f;
        }

        private static Formula overBound(int kind, int v, Formula a) {
            Formula f = over(kind, a);
            f.v = v;
            f.free = a.free & ~(1 << v);
            f.depth = 1 + a.depth;
            return f;
        }

        /** SAME of two VARIABLES hands on what is BOUND beside it in BOTH: if one is, the other one is, too. */
        private int passedOn(int bound) {
            if (kind != SAME || terms.values != 0 || (terms.variables & bound) == 0) {
                return 0;
            }
            return terms.variables;
        }

        /** What is named has smaller numbers than the FORMULA itself, so its own number is told last. */
        void settleLoose(int number) {
            loose = a == null ? -1 : a.loose;
            if (b != null && b.loose >= 0) {
                loose = loose < 0 ? b.loose : Math.min(loose, b.loose);
            }
            if (loose < 0 && isLoose()) {
                loose = number;
            }
        }

        private boolean isLoose() {
            return kind == SOME && !isIn(a.up, v) || kind == EVERY && !isIn(a.down, v);
        }
    }

    private static final class Rule {
        final Terms head;
        final Atom[] atoms = new Atom[MOST_ATOMS];
        int many = 0;

        Rule(Terms head) {
            this.head = head;
        }

        int allAtoms() {
            return (1 << many) - 1;
        }

        int variablesIn(int someAtoms) {
            int variables = 0;
            for (int k = 0; k < many; k++) {
                if (isIn(someAtoms, k)) {
                    variables |= atoms[k].terms.variables;
                }
            }
            return variables;
        }

        boolean isGrounded() {
            return (head.variables & ~variablesIn(allAtoms())) == 0;
        }

        void keepAtoms(int kept) {
            int before = many;
            many = 0;
            for (int k = 0; k < before; k++) {
                if (isIn(kept, k)) {
                    atoms[many] = atoms[k];
                    many++;
                }
            }
        }
    }

    /** A set of rows of up to three VALUES, told in their order. */
    private static final class RowSet {
        private final boolean[] isRow = new boolean[VALUES * VALUES * VALUES];
        int many = 0;

        void clear() {
            for (int row = 0; row < isRow.length; row++) {
                isRow[row] = false;
            }
            many = 0;
        }

        boolean has(int row) {
            return isRow[row];
        }

        void include(int row) {
            if (!isRow[row]) {
                isRow[row] = true;
                many++;
            }
        }

        int at(int place) {
            int before = 0;
            for (int row = 0; row < isRow.length; row++) {
                if (isRow[row]) {
                    if (before == place) {
                        return row;
                    }
                    before++;
                }
            }
            return 0;
        }
    }

    /**
     * Finds the ANSWERS of a FORMULA. A long has a bit (a lane) for each two VALUES of the VARIABLES 0 and 1:
     * 64 rows are looked at in one go, so that six VARIABLES need no more than 4096 goes.
     */
    private static final class Lanes {
        private static final int LANE_VARIABLES = 3;
        private static final long FIRST_IS_0 = 0xFFL;
        private static final long SECOND_IS_0 = 0x0101010101010101L;

        private final RowSet found = new RowSet();
        /** Those of the VARIABLES 0 and 1 stay unknown (-1), the lanes tell them. */
        private final int[] value = {-1, -1, 0, 0, 0, 0};
        private int domain = 0;

        /** The FORMULA has at most three FREE VARIABLES. */
        RowSet answersOf(Formula f, int domainOfWhole) {
            domain = domainOfWhole;
            found.clear();
            int others = f.free & ~LANE_VARIABLES;
            int otherBits = VALUE_BITS * Integer.bitCount(others);
            long asked = asked(f.free);
            int rows = 1 << otherBits;
            for (int row = 0; row < rows; row++) {
                if (takes(others, row)) {
                    include(holding(f) & asked, f.free, otherBits, row);
                }
            }
            return found;
        }

        /** A VARIABLE that is not FREE is looked at with one VALUE only, as each one gives the same. */
        private long asked(int free) {
            return lanesWith(0, isIn(free, 0) ? domain : 1) & lanesWith(1, isIn(free, 1) ? domain : 1);
        }

        /** Gives the VARIABLES the VALUES of the row; false if one is outside of the DOMAIN. */
        private boolean takes(int variables, int row) {
            int left = row;
            for (int v = VARIABLES - 1; v >= 0; v--) {
                if (isIn(variables, v)) {
                    value[v] = left & VALUES - 1;
                    left >>= VALUE_BITS;
                    if (!isIn(domain, value[v])) {
                        return false;
                    }
                }
            }
            return true;
        }

        private void include(long holding, int free, int otherBits, int row) {
            boolean isFirstAlone = isIn(free, 0) && !isIn(free, 1);
            long left = holding;
            int many = Long.bitCount(holding);
            for (int k = 0; k < many; k++) {
                int lane = Long.numberOfTrailingZeros(left);
                left &= left - 1;
                int laneRow = isFirstAlone ? lane >> VALUE_BITS : lane;
                found.include(laneRow << otherBits | row);
            }
        }

        /** The lanes in which the FORMULA HOLDS; the LENGTH of at most 40 keeps the calls within one another few. */
        private long holding(Formula f) {
            switch (f.kind) {
                case ATOM:
                    return holdingAtom(f.atom);
                case SAME:
                    return holdingSame(f.terms);
                case NOT:
                    return ~holding(f.a);
                case BOTH: {
                    long first = holding(f.a);
                    return first == 0 ? first : first & holding(f.b);
                }
                case EITHER: {
                    long first = holding(f.a);
                    return first == -1 ? first : first | holding(f.b);
                }
                case SOME:
                    return f.v < 2 ? someLane(f.v, holding(f.a)) : someValue(f);
                default:
                    return f.v < 2 ? ~someLane(f.v, ~holding(f.a)) : everyValue(f);
            }
        }

        private long holdingAtom(Atom atom) {
            int facts = atom.matching(value);
            if ((atom.terms.variables & LANE_VARIABLES) == 0) {
                return facts == 0 ? 0 : -1;
            }
            long sum = 0;
            int many = Integer.bitCount(facts);
            for (int k = 0; k < many; k++) {
                sum |= lanesOfFact(atom, Integer.numberOfTrailingZeros(facts));
                facts &= facts - 1;
            }
            return sum;
        }

        private static long lanesOfFact(Atom atom, int fact) {
            long lanes = -1;
            for (int place = 0; place < atom.terms.many; place++) {
                int term = atom.terms.term[place];
                if (term < 2) {
                    lanes &= lanesAt(term, atom.relation.valueAt(fact, place));
                }
            }
            return lanes;
        }

        private long holdingSame(Terms terms) {
            long sum = 0;
            for (int w = 0; w < VALUES; w++) {
                sum |= lanesWhere(terms, 0, w) & lanesWhere(terms, 1, w);
            }
            return sum;
        }

        /** The lanes in which the TERM k is w. */
        private long lanesWhere(Terms terms, int k, int w) {
            if (terms.term[k] < 2) {
                return lanesAt(terms.term[k], w);
            }
            return terms.valueOf(k, value) == w ? -1 : 0;
        }

        private static long lanesAt(int variable, int w) {
            return variable == 0 ? FIRST_IS_0 << VALUES * w : SECOND_IS_0 << w;
        }

        private static long lanesWith(int variable, int values) {
            long lanes = 0;
            for (int w = 0; w < VALUES; w++) {
                if (isIn(values, w)) {
                    lanes |= lanesAt(variable, w);
                }
            }
            return lanes;
        }

        /** Each lane becomes whether one that differs from it in the VARIABLE alone, within the DOMAIN, is set. */
        private long someLane(int variable, long inner) {
            long sum = 0;
            for (int w = 0; w < VALUES; w++) {
                if (isIn(domain, w)) {
                    sum |= variable == 0 ? inner >>> VALUES * w & FIRST_IS_0 : inner >>> w & SECOND_IS_0;
                }
            }
            return variable == 0 ? sum * SECOND_IS_0 : sum * FIRST_IS_0;
        }

        private long someValue(Formula f) {
            int before = value[f.v];
            long sum = 0;
            for (int w = 0; w < VALUES && sum != -1; w++) {
                if (isIn(domain, w)) {
                    value[f.v] = w;
                    sum |= holding(f.a);
                }
            }
            value[f.v] = before;
            return sum;
        }

        private long everyValue(Formula f) {
            int before = value[f.v];
            long sum = -1;
            for (int w = 0; w < VALUES && sum != 0; w++) {
                if (isIn(domain, w)) {
                    value[f.v] = w;
                    sum &= holding(f.a);
                }
            }
            value[f.v] = before;
            return sum;
        }
    }

    /** Goes through the ATOMS of a RULE in their ORDER, FACT by FACT. */
    private static final class Walk {
        final int[] order = new int[MOST_ATOMS];
        final int[] sizes = new int[MOST_ATOMS];
        private final RowSet found = new RowSet();
        private final int[] value = {-1, -1, -1, -1, -1, -1};
        private Rule rule = null;
        private boolean isTelling = false;
        /** Behind so many ATOMS all VARIABLES of the HEAD are known. */
        private int headFrom = 0;

        void arrange(Rule told) {
            rule = told;
            headFrom = 0;
            int known = 0;
            int left = told.allAtoms();
            for (int place = 0; place < told.many; place++) {
                if ((told.head.variables & ~known) != 0) {
                    headFrom = place + 1;
                }
                int next = nextOf(left, known);
                order[place] = next;
                left &= ~(1 << next);
                known |= told.atoms[next].terms.variables;
            }
        }

        void measure(Rule told) {
            arrange(told);
            for (int place = 0; place < told.many; place++) {
                sizes[place] = 0;
            }
            isTelling = false;
            goOn(0);
        }

        /** The RULE is GROUNDED. */
        RowSet tell(Rule told) {
            arrange(told);
            found.clear();
            isTelling = true;
            goOn(0);
            return found;
        }

        private int nextOf(int left, int known) {
            int best = 0;
            int bestKnown = -1;
            for (int k = 0; k < rule.many; k++) {
                if (isIn(left, k)) {
                    int places = knownPlaces(rule.atoms[k].terms, known);
                    if (places > bestKnown || places == bestKnown
                            && rule.atoms[k].relation.many < rule.atoms[best].relation.many) {
                        best = k;
                        bestKnown = places;
                    }
                }
            }
            return best;
        }

        private static int knownPlaces(Terms terms, int known) {
            int places = 0;
            for (int k = 0; k < terms.many; k++) {
                if (!isVariable(terms.term[k]) || isIn(known, terms.term[k])) {
                    places++;
                }
            }
            return places;
        }

        private void goOn(int came) {
            if (isTelling && isTold(came) || came >= rule.many) {
                return;
            }
            Atom atom = rule.atoms[order[came]];
            int facts = atom.matching(value);
            int many = Integer.bitCount(facts);
            sizes[came] += many;
            if (!isTelling && came == rule.many - 1) {
                return;
            }
            int fresh = freshIn(atom.terms);
            for (int k = 0; k < many; k++) {
                learn(atom, Integer.numberOfTrailingZeros(facts));
                facts &= facts - 1;
                goOn(came + 1);
            }
            forget(fresh);
        }

        /** Whether there is nothing more to tell from here; behind all ATOMS the row is told first. */
        private boolean isTold(int came) {
            if (came < headFrom) {
                return false;
            }
            int row = headRow();
            if (came >= rule.many) {
                found.include(row);
            }
            return found.has(row);
        }

        private int headRow() {
            int row = 0;
            for (int k = 0; k < rule.head.many; k++) {
                row = row << VALUE_BITS | rule.head.valueOf(k, value);
            }
            return row;
        }

        private int freshIn(Terms terms) {
            int fresh = 0;
            for (int k = 0; k < terms.many; k++) {
                if (terms.valueOf(k, value) < 0) {
                    fresh |= 1 << terms.term[k];
                }
            }
            return fresh;
        }

        private void learn(Atom atom, int fact) {
            for (int place = 0; place < atom.terms.many; place++) {
                int term = atom.terms.term[place];
                if (isVariable(term)) {
                    value[term] = atom.relation.valueAt(fact, place);
                }
            }
        }

        private void forget(int variables) {
            for (int v = 0; v < VARIABLES; v++) {
                if (isIn(variables, v)) {
                    value[v] = -1;
                }
            }
        }
    }

    /** Looks for a MAP from a RULE to a RULE, each with those of its ATOMS alone that a set names. */
    private static final class MapSearch {
        private final int[] image = new int[VARIABLES];
        /** The VARIABLES whose image is settled. */
        private int settled = 0;
        private Rule from = null;
        private int fromAtoms = 0;
        private Rule to = null;
        private int toAtoms = 0;

        boolean finds(Rule q, int atomsOfQ, Rule p, int atomsOfP) {
            from = q;
            fromAtoms = atomsOfQ;
            to = p;
            toAtoms = atomsOfP;
            settled = 0;
            return mapsHead() && mapsAtomsFrom(0);
        }

        /** The TERM that the VARIABLE is by the MAP found last, or -1 if it is in no ATOM. */
        int imageOf(int variable) {
            return isIn(settled, variable) ? image[variable] : -1;
        }

        /** The set of the ATOMS that are left when the RULE is SHORTENED. */
        int shortened(Rule rule) {
            int left = rule.allAtoms();
            for (int k = 0; k < rule.many; k++) {
                // An ATOM that had to stay has to stay later, too: a MAP from what is left then would,
                // behind the MAP to what is left, have been one from the whole. So one round is enough.
                if (finds(rule, left, rule, left & ~(1 << k))) {
                    left &= ~(1 << k);
                }
            }
            return left;
        }

        /** The HEAD goes first: it leaves the ATOMS fewer images to try, and the same MAP is the first one. */
        private boolean mapsHead() {
            if (from.head.many != to.head.many) {
                return false;
            }
            int inAtoms = from.variablesIn(fromAtoms);
            for (int k = 0; k < from.head.many; k++) {
                int term = from.head.term[k];
                int target = to.head.term[k];
                boolean isMapped = isVariable(term) && isIn(inAtoms, term);
                if (isMapped ? !lets(term, target) : term != target) {
                    return false;
                }
            }
            return true;
        }

        private boolean mapsAtomsFrom(int next) {
            if (next >= from.many) {
                return true;
            }
            if (!isIn(fromAtoms, next)) {
                return mapsAtomsFrom(next + 1);
            }
            int before = settled;
            for (int k = 0; k < to.many; k++) {
                if (isIn(toAtoms, k) && mapsAtom(from.atoms[next], to.atoms[k]) && mapsAtomsFrom(next + 1)) {
                    return true;
                }
                settled = before;
            }
            return false;
        }

        private boolean mapsAtom(Atom atom, Atom target) {
            if (atom.relation != target.relation) {
                return false;
            }
            for (int k = 0; k < atom.terms.many; k++) {
                int term = atom.terms.term[k];
                if (isVariable(term) ? !lets(term, target.terms.term[k]) : term != target.terms.term[k]) {
                    return false;
                }
            }
            return true;
        }

        /** Lets the VARIABLE be the TERM; false if it is another one already. */
        private boolean lets(int variable, int target) {
            if ((settled >> variable & 1) != 0) {
                return image[variable] == target;
            }
            settled |= 1 << variable;
            image[variable] = target;
            return true;
        }
    }
}
