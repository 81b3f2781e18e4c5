/**
 * Promises 26 to 29, and what 'Terms' says of a map and of shortening:
 * a test for each sentence that names a boundary case.
 */
public final class RuleMapEdgeTests {
    private static final Asker.Maker EMPTY = Made.EMPTY;
    private static final Asker.Maker SMALL = Made.SMALL;
    private static final Asker.Maker FULL = Made.FULL;
    /** SMALL has so many RULES, and FORMULAS. */
    private static final int NEXT = 7;
    private static final int FORMULAS = 16;
    private static final int[] NO_RULE_OF_SMALL = {-1, NEXT, 8, Edges.LEAST, Edges.MOST};
    /** RULES of SMALL. */
    private static final int TWO_STEPS = 0;
    private static final int BARE_NOT_GROUNDED = 2;
    private static final int BARE = 3;
    private static final int NOT_GROUNDED = 4;
    private static final int FOUR_HIDDEN = 5;
    private static final int THREE_TERMS = 6;

    /** The RELATIONS 0, 1 and 2 with one, two and three PLACES, and no FACTS: a MAP has nothing to do with those. */
    private static final Asker.Maker RELATIONS =
            Made.then(EMPTY, x -> x.relation(1), x -> x.relation(2), x -> x.relation(3));

    private final Edges edges = new Edges();

    public static void main(String[] args) {
        RuleMapEdgeTests tests = new RuleMapEdgeTests();
        tests.isWithinRefused();
        tests.headsOfAMap();
        tests.atomsOfAMap();
        tests.factsDoNotCount();
        tests.imageRefused();
        tests.imageOfNone();
        tests.theFirstMap();
        tests.shortenRefused();
        tests.shorten();
        tests.theFirstAtomIsTakenAway();
        tests.translateRefused();
        tests.translateUpTo40();
        tests.translateAdds();
        tests.translateSays();
        tests.edges.end("RuleMapEdgeTests");
    }

    /** The RULES p (0) and q (1), told as a HEAD and ATOMS. */
    private static Asker.Maker pAndQ(int[] headOfP, int[][] atomsOfP, int[] headOfQ, int[][] atomsOfQ) {
        return Made.then(RELATIONS, x -> addRule(x, headOfP, atomsOfP), x -> addRule(x, headOfQ, atomsOfQ));
    }

    /** An ATOM is told by its TERMS: it is one of the RELATION with so many PLACES. */
    private static int addRule(Thimble x, int[] head, int[][] atoms) {
        int rule = x.rule(head.length, at(head, 0), at(head, 1), at(head, 2));
        for (int[] atom : atoms) {
            x.add(rule, atom.length - 1, at(atom, 0), at(atom, 1), at(atom, 2));
        }
        return rule;
    }

    private static int at(int[] terms, int k) {
        return k < terms.length ? terms[k] : 99;
    }

    private static int[] head(int... terms) {
        return terms;
    }

    private static int[][] atoms(int[]... atoms) {
        return atoms;
    }

    private static int[] atom(int... terms) {
        return terms;
    }

    private void within(boolean want, int[] headOfP, int[][] atomsOfP, int[] headOfQ, int[][] atomsOfQ) {
        edges.asked(want, pAndQ(headOfP, atomsOfP, headOfQ, atomsOfQ), x -> x.isWithin(0, 1));
    }

    private void isWithinRefused() {
        edges.sentence("26: Throws IndexOutOfBoundsException if there is no such RULE");
        for (int wrong : NO_RULE_OF_SMALL) {
            edges.refused(Edges.INDEX, SMALL, x -> x.isWithin(wrong, 0));
            edges.refused(Edges.INDEX, SMALL, x -> x.isWithin(0, wrong));
            edges.refused(Edges.INDEX, SMALL, x -> x.isWithin(wrong, wrong));
        }
        edges.refused(Edges.INDEX, FULL, x -> x.isWithin(8, 7));
        edges.refused(Edges.INDEX, FULL, x -> x.isWithin(7, 8));
        edges.sentence("26: each RULE is WITHIN itself, GROUNDED or not");
        for (int k = 0; k < NEXT; k++) {
            int r = k;
            edges.asked(true, SMALL, x -> x.isWithin(r, r));
        }
        edges.asked(true, FULL, x -> x.isWithin(7, 7));
    }

    private void headsOfAMap() {
        edges.sentence("MAP: both HEADS have as many TERMS");
        int[][] steps = atoms(atom(0, 1));
        within(true, head(), steps, head(), steps);
        within(false, head(), steps, head(0), steps);
        within(false, head(0), steps, head(), steps);
        within(false, head(0, 1), steps, head(0, 1, 1), steps);
        within(false, head(0, 1, 1), steps, head(0, 1), steps);
        within(true, head(0, 1, 1), steps, head(0, 1, 1), steps);
        edges.sentence("MAP: each TERM of its HEAD that of p at the same place");
        within(false, head(1, 0), steps, head(0, 1), steps);
        within(false, head(0), steps, head(1), steps);
        within(true, head(3), atoms(atom(2, 3)), head(1), steps);
        within(false, head(0, 1), steps, head(0, 0), atoms(atom(0, 0)));
        within(true, head(0, 0), atoms(atom(0, 0)), head(0, 1), steps);
        within(false, head(0, 1), atoms(atom(0, 0), atom(1, 1)), head(0, 0), atoms(atom(0, 0)));
        edges.sentence("MAP: (VALUES stay ..");
        within(true, head(12), steps, head(12), steps);
        within(false, head(13), steps, head(12), steps);
        within(false, head(0), steps, head(12), steps);
        within(true, head(12), atoms(atom(12, 13)), head(0), steps);
        edges.sentence("MAP: .. so does a VARIABLE of its HEAD that is in no ATOM of q)");
        within(true, head(5), steps, head(5), steps);
        within(false, head(4), steps, head(5), steps);
        within(false, head(12), steps, head(5), steps);
        within(true, head(5), atoms(atom(5, 5)), head(5), steps);
        within(true, head(0), steps, head(5), atoms(atom(5, 1)));
        within(false, head(5), steps, head(5), atoms(atom(5, 1)));
        edges.sentence("MAP: neither has ATOMS");
        within(true, head(), atoms(), head(), atoms());
        within(true, head(5, 12, 5), atoms(), head(5, 12, 5), atoms());
        within(false, head(5, 12, 5), atoms(), head(5, 12, 4), atoms());
        within(false, head(5, 12, 5), atoms(), head(5, 13, 5), atoms());
    }

    private void atomsOfAMap() {
        edges.sentence("MAP: q has no ATOMS: nothing has to become one of p");
        within(true, head(), atoms(atom(0, 1), atom(0)), head(), atoms());
        within(true, head(0), atoms(atom(0, 1)), head(0), atoms());
        edges.sentence("MAP: p has no ATOMS: an ATOM of q can become none");
        within(false, head(), atoms(), head(), atoms(atom(0)));
        within(false, head(12), atoms(), head(12), atoms(atom(0, 1)));
        edges.sentence("MAP: each ATOM of q becomes one of p (of the same RELATION)");
        within(false, head(), atoms(atom(0, 1)), head(), atoms(atom(0)));
        within(false, head(), atoms(atom(0)), head(), atoms(atom(0, 1)));
        within(true, head(), atoms(atom(0), atom(0, 1, 2)), head(), atoms(atom(3, 4, 5)));
        edges.due(false, RELATIONS, x -> x.relation(2), x -> x.rule(0, 0, 0, 0), x -> x.add(0, 1, 0, 1, 0),
                x -> x.rule(0, 0, 0, 0), x -> x.add(1, 3, 0, 1, 0), x -> x.isWithin(0, 1));
        edges.sentence("MAP: lets each VARIABLE in the ATOMS of q be a TERM: the same one everywhere");
        within(false, head(), atoms(atom(0, 1)), head(), atoms(atom(0, 0)));
        within(true, head(), atoms(atom(0, 0)), head(), atoms(atom(0, 1)));
        within(true, head(), atoms(atom(13, 13)), head(), atoms(atom(0, 0)));
        within(false, head(), atoms(atom(13, 14)), head(), atoms(atom(0, 0)));
        within(false, head(), atoms(atom(0, 1), atom(2)), head(), atoms(atom(0, 1), atom(1)));
        within(true, head(), atoms(atom(0, 1), atom(2), atom(0)), head(), atoms(atom(3, 1), atom(3)));
        edges.sentence("MAP: VALUES stay in the ATOMS, too");
        within(true, head(), atoms(atom(0, 12, 1)), head(), atoms(atom(2, 12, 2 + 1)));
        within(false, head(), atoms(atom(0, 12, 1)), head(), atoms(atom(2, 13, 3)));
        within(false, head(), atoms(atom(0, 4, 1)), head(), atoms(atom(0, 12, 1)));
        edges.sentence("MAP: Two ATOMS of q can become the same one.");
        within(true, head(), atoms(atom(0, 0)), head(),
                atoms(atom(0, 1), atom(1, 2), atom(2, 3), atom(3, 4), atom(4, 5)));
        within(true, head(), atoms(atom(0, 1)), head(), atoms(atom(0, 1), atom(2, 1), atom(0, 3)));
        within(false, head(), atoms(atom(0, 1)), head(), atoms(atom(0, 1), atom(1, 2)));
        edges.sentence("MAP: the last choice of all is the one that goes on");
        int[][] last = atoms(atom(10, 11), atom(12, 13), atom(14, 15), atom(16, 17), atom(17, 17));
        within(true, head(), last, head(), atoms(atom(0, 1), atom(1, 2), atom(2, 3), atom(3, 4), atom(4, 0)));
        within(false, head(10), last, head(0), atoms(atom(0, 1), atom(1, 2)));
    }

    private void factsDoNotCount() {
        edges.sentence("26: whether one rule tells nothing but what another one does, whatever the facts are");
        Asker.Maker rules = pAndQ(head(0), atoms(atom(0, 1)), head(0), atoms(atom(0, 1), atom(1)));
        edges.asked(false, rules, x -> x.isWithin(0, 1));
        edges.asked(true, rules, x -> x.isWithin(1, 0));
        edges.due(false, rules, x -> x.fact(0, 3, 0, 0), x -> x.fact(1, 3, 3, 0), x -> x.isWithin(0, 1));
    }

    private void imageRefused() {
        edges.sentence("27: Throws IndexOutOfBoundsException if there is no such RULE");
        for (int wrong : NO_RULE_OF_SMALL) {
            edges.refused(Edges.INDEX, SMALL, x -> x.image(wrong, 0, 0));
            edges.refused(Edges.INDEX, SMALL, x -> x.image(0, wrong, 0));
        }
        edges.refused(Edges.INDEX, FULL, x -> x.image(8, 0, 0));
        edges.refused(Edges.INDEX, FULL, x -> x.image(0, 8, 0));
        edges.sentence("27: Throws IllegalArgumentException if v is no VARIABLE");
        for (int wrong : new int[] {-1, 6, 9, 10, 17, Edges.LEAST, Edges.MOST}) {
            edges.refused(Edges.ARGUMENT, SMALL, x -> x.image(0, 0, wrong));
            edges.refused(Edges.ARGUMENT, SMALL, x -> x.image(0, 1, wrong));
        }
        edges.sentence("27: If several exceptions apply: no such RULE, and v is no VARIABLE");
        edges.refused(Edges.INDEX, SMALL, x -> x.image(NEXT, 0, 6));
        edges.refused(Edges.INDEX, SMALL, x -> x.image(0, NEXT, 6));
        edges.refused(Edges.INDEX, EMPTY, x -> x.image(0, 0, -1));
    }

    private void imageOfNone() {
        edges.sentence("27: -1 if there is no MAP");
        Asker.Maker none = pAndQ(head(), atoms(atom(0, 1)), head(), atoms(atom(0, 1), atom(1)));
        Asker.Maker heads = pAndQ(head(0), atoms(atom(0, 1)), head(0, 1), atoms(atom(0, 1)));
        for (int k = 0; k <= 5; k++) {
            int v = k;
            edges.asked(-1, none, x -> x.image(0, 1, v));
            edges.asked(-1, heads, x -> x.image(0, 1, v));
        }
        edges.sentence("27: .. or v is in no ATOM of q");
        Asker.Maker some = pAndQ(head(5), atoms(atom(14, 0)), head(5), atoms(atom(0, 1)));
        int[] images = {14, 0, -1, -1, -1, -1};
        for (int k = 0; k <= 5; k++) {
            int v = k;
            edges.asked(images[v], some, x -> x.image(0, 1, v));
            edges.asked(-1, SMALL, x -> x.image(BARE, BARE, v));
            edges.asked(-1, SMALL, x -> x.image(BARE_NOT_GROUNDED, BARE_NOT_GROUNDED, v));
        }
        edges.sentence("27: which TERM v is: the VARIABLE 0, or the VALUE 0");
        edges.asked(0, pAndQ(head(), atoms(atom(0)), head(), atoms(atom(5))), x -> x.image(0, 1, 5));
        edges.asked(10, pAndQ(head(), atoms(atom(10)), head(), atoms(atom(0))), x -> x.image(0, 1, 0));
        edges.asked(17, pAndQ(head(), atoms(atom(17)), head(), atoms(atom(0))), x -> x.image(0, 1, 0));
        edges.asked(5, pAndQ(head(), atoms(atom(5)), head(), atoms(atom(0))), x -> x.image(0, 1, 0));
    }

    private void images(Asker.Maker maker, int... want) {
        for (int k = 0; k < want.length; k++) {
            int v = k;
            edges.asked(want[v], maker, x -> x.image(0, 1, v));
        }
    }

    private void theFirstMap() {
        edges.sentence("MAP: The MAP that is told is the first one found: .. the first one of p");
        images(pAndQ(head(), atoms(atom(2), atom(3), atom(4)), head(), atoms(atom(0), atom(1))), 2, 2);
        int[][] circle = atoms(atom(3, 4), atom(4, 5), atom(5, 3));
        images(pAndQ(head(), circle, head(), atoms(atom(0, 1), atom(2, 1))), 3, 4, 3);
        edges.sentence("MAP: .. ATOM by ATOM of q, in order");
        images(pAndQ(head(), atoms(atom(3, 4), atom(4, 3)), head(), atoms(atom(1, 0), atom(0, 1))), 4, 3);
        images(pAndQ(head(), circle, head(), atoms(atom(1, 2), atom(0, 1))), 5, 3, 4);
        edges.sentence("MAP: .. the first one of p with which it goes on");
        images(pAndQ(head(), atoms(atom(2, 3), atom(3, 3)), head(), atoms(atom(0, 1), atom(1, 0))), 3, 3);
        images(pAndQ(head(), atoms(atom(2, 3), atom(4, 5), atom(5)), head(), atoms(atom(0, 1), atom(1))), 4, 5);
        images(pAndQ(head(5), atoms(atom(2), atom(5), atom(3)), head(1), atoms(atom(0), atom(1))), 2, 5);
        images(pAndQ(head(3), atoms(atom(2, 3), atom(2, 4), atom(4, 3)), head(2),
                atoms(atom(0, 1), atom(1, 2))), 2, 4, 3);
        edges.sentence("MAP: .. also where the HEAD alone forbids the first one");
        images(pAndQ(head(14), atoms(atom(2, 13), atom(3, 14)), head(1), atoms(atom(0, 1))), 3, 14);
        images(pAndQ(head(12, 2), atoms(atom(2, 2)), head(12, 0), atoms(atom(0, 1))), 2, 2);
    }

    private void shortenRefused() {
        edges.sentence("28: Throws IndexOutOfBoundsException if there is no such RULE");
        for (int wrong : NO_RULE_OF_SMALL) {
            edges.refused(Edges.INDEX, SMALL, x -> x.shorten(wrong));
        }
        edges.refused(Edges.INDEX, FULL, x -> x.shorten(8));
        edges.refused(Edges.INDEX, EMPTY, x -> x.shorten(0));
    }

    private void shortened(int taken, int left, int[] head, int[]... atoms) {
        Asker.Maker rule = Made.then(RELATIONS, x -> addRule(x, head, atoms));
        edges.asked(left, rule, x -> x.ofRule(0, 2));
        edges.due(taken, rule, x -> x.shorten(0));
        edges.due(left, rule, x -> x.shorten(0), x -> x.ofRule(0, 0));
        edges.due(left, rule, x -> x.shorten(0), x -> x.ofRule(0, 2));
        edges.asked(0, Made.then(rule, x -> x.shorten(0)), x -> x.shorten(0));
    }

    private void shorten() {
        edges.sentence("28: Returns how many ATOMS are taken away: none, as there are none");
        shortened(0, 0, head());
        shortened(0, 0, head(5));
        shortened(0, 0, head(12, 13, 14));
        edges.sentence("28: none, as each one is needed");
        shortened(0, 1, head(), atom(0));
        shortened(0, 2, head(0, 2), atom(0, 1), atom(1, 2));
        shortened(0, 5, head(), atom(10), atom(11), atom(12), atom(13), atom(14));
        shortened(0, 5, head(0), atom(0, 1), atom(1, 2), atom(2, 3), atom(3, 4), atom(4, 5));
        shortened(0, 3, head(), atom(0, 1), atom(1, 2), atom(2, 0));
        edges.sentence("28: all but one: the last one has no other to become");
        shortened(4, 1, head(), atom(0), atom(1), atom(2), atom(3), atom(4));
        shortened(4, 1, head(), atom(0), atom(0), atom(0), atom(0), atom(0));
        shortened(4, 1, head(), atom(0, 1), atom(1, 2), atom(2, 3), atom(3, 4), atom(5, 5));
        shortened(1, 1, head(), atom(0, 1), atom(2, 3));
        edges.sentence("28: some");
        shortened(1, 4, head(0), atom(0, 1), atom(0, 2), atom(2), atom(3, 2), atom(3));
        shortened(2, 3, head(0), atom(0, 1), atom(0, 2), atom(2), atom(3, 2), atom(2, 4));
        shortened(3, 2, head(), atom(0, 1), atom(1, 0), atom(2, 3), atom(3, 2), atom(1, 0));
        edges.sentence("28: it need not be GROUNDED");
        shortened(1, 1, head(5), atom(0), atom(1));
        shortened(0, 2, head(0, 5), atom(0), atom(10));
        edges.sentence("28: a VARIABLE of the HEAD stays, and so does what holds it");
        shortened(1, 2, head(0, 1), atom(0), atom(1), atom(2));
        shortened(0, 3, head(0, 1, 2), atom(0), atom(1), atom(2));
        edges.due(1, Made.then(RELATIONS, x -> addRule(x, head(0), atoms(atom(0), atom(1)))),
                x -> x.shorten(0), x -> x.ofRule(0, 1));
    }

    private void theFirstAtomIsTakenAway() {
        edges.sentence("SHORTEN: the first such ATOM is taken away.");
        Asker.Maker loop = Made.then(RELATIONS,
                x -> addRule(x, head(), atoms(atom(0, 1), atom(1, 0), atom(2, 3), atom(3, 2))),
                x -> addRule(x, head(), atoms(atom(4, 5), atom(5, 4))));
        edges.due(1, loop, x -> x.image(0, 1, 5));
        edges.due(2, loop, x -> x.shorten(0));
        edges.due(2, loop, x -> x.shorten(0), x -> x.image(0, 1, 4));
        edges.due(3, loop, x -> x.shorten(0), x -> x.image(0, 1, 5));
        Asker.Maker like = Made.then(RELATIONS,
                x -> addRule(x, head(), atoms(atom(4), atom(3), atom(2), atom(1), atom(0))),
                x -> addRule(x, head(), atoms(atom(5))));
        edges.due(0, like, x -> x.shorten(0), x -> x.image(0, 1, 5));
        edges.sentence("SHORTEN: those that are left keep their order");
        Asker.Maker order = Made.then(RELATIONS,
                x -> addRule(x, head(), atoms(atom(5), atom(14), atom(0, 1), atom(13), atom(2, 3))),
                x -> addRule(x, head(), atoms(atom(0), atom(1, 2))));
        edges.due(2, order, x -> x.shorten(0));
        edges.due(14, order, x -> x.shorten(0), x -> x.image(0, 1, 0));
        edges.due(2, order, x -> x.shorten(0), x -> x.image(0, 1, 1));
        edges.due(3, order, x -> x.shorten(0), x -> x.image(0, 1, 2));
        edges.sentence("28: SHORTENS a RULE: and no other one");
        edges.due(2, SMALL, x -> x.shorten(FOUR_HIDDEN), x -> x.ofRule(TWO_STEPS, 0));
        edges.due(3, SMALL, x -> x.shorten(FOUR_HIDDEN), x -> x.ofRule(1, 0));
    }

    private static int rules(Thimble x, int many, int t) {
        int rule = x.rule(many, t, 0, 0);
        x.add(rule, Made.EDGE, 0, 1, 0);
        x.add(rule, Made.EDGE, 2, 3, 0);
        return rule;
    }

    /** So many FORMULAS more. */
    private static Asker.Call sames(int many) {
        return x -> {
            for (int k = 0; k < many; k++) {
                x.same(0, 0);
            }
            return many;
        };
    }

    private void translateRefused() {
        edges.sentence("29: Throws IndexOutOfBoundsException if there is no such RULE");
        for (int wrong : NO_RULE_OF_SMALL) {
            edges.refused(Edges.INDEX, SMALL, x -> x.translate(wrong));
        }
        edges.refused(Edges.INDEX, FULL, x -> x.translate(8));
        edges.sentence("29: Throws IllegalStateException if it has no ATOMS");
        edges.refused(Edges.STATE, SMALL, x -> x.translate(BARE));
        edges.refused(Edges.STATE, SMALL, x -> x.translate(BARE_NOT_GROUNDED));
        edges.refused(Edges.STATE, Made.then(EMPTY, x -> x.rule(3, 10, 11, 12)), x -> x.translate(0));
        edges.sentence("29: .. is not GROUNDED");
        edges.refused(Edges.STATE, SMALL, x -> x.translate(NOT_GROUNDED));
        edges.refused(Edges.STATE, Made.then(SMALL, x -> x.rule(3, 0, 1, 5), x -> x.add(NEXT, Made.EDGE, 0, 1, 0)),
                x -> x.translate(NEXT));
        edges.due(FORMULAS + 2, SMALL, x -> x.add(NOT_GROUNDED, Made.MARK, 4, 0, 0),
                x -> x.translate(NOT_GROUNDED) - 1);
        edges.sentence("29: .. more than 3 VARIABLES are in its ATOMS, but not in its HEAD");
        edges.refused(Edges.STATE, SMALL, x -> x.translate(FOUR_HIDDEN));
        edges.due(FORMULAS + 5, SMALL, x -> x.translate(rules(x, 1, 3)));
        edges.due(FORMULAS + 5, SMALL, x -> x.translate(rules(x, 1, 0)));
        edges.refused(Edges.STATE, Made.then(SMALL, x -> rules(x, 1, 10)), x -> x.translate(NEXT));
        edges.refused(Edges.STATE, Made.then(SMALL, x -> rules(x, 1, 0), x -> x.add(NEXT, Made.MARK, 5, 0, 0)),
                x -> x.translate(NEXT));
        edges.due(FORMULAS + 2, SMALL, x -> x.shorten(FOUR_HIDDEN), x -> x.translate(FOUR_HIDDEN));
    }

    private void translateUpTo40() {
        edges.sentence("29: .. or there would be more than 40 FORMULAS");
        edges.due(39, Made.then(SMALL, sames(20)), x -> x.translate(TWO_STEPS));
        edges.due(40, Made.then(SMALL, sames(20)), x -> x.translate(TWO_STEPS), Thimble::formulas);
        edges.refused(Edges.STATE, Made.then(SMALL, sames(21)), x -> x.translate(TWO_STEPS));
        edges.refused(Edges.STATE, Made.then(SMALL, sames(22)), x -> x.translate(TWO_STEPS));
        edges.refused(Edges.STATE, Made.then(SMALL, sames(23)), x -> x.translate(TWO_STEPS));
        edges.refused(Edges.STATE, Made.then(SMALL, sames(24)), x -> x.translate(TWO_STEPS));
        edges.due(39, Made.then(SMALL, sames(23)), x -> x.translate(THREE_TERMS));
        edges.refused(Edges.STATE, Made.then(SMALL, sames(24)), x -> x.translate(THREE_TERMS));
        edges.refused(Edges.STATE, FULL, x -> x.translate(0));
        Asker.Maker five = Made.then(SMALL, x -> rules(x, 1, 1), x -> x.add(NEXT, Made.MARK, 3, 0, 0),
                x -> x.add(NEXT, Made.MARK, 0, 0, 0), x -> x.add(NEXT, Made.TRIPLE, 0, 1, 2));
        edges.due(39, Made.then(five, sames(12)), x -> x.translate(NEXT));
        edges.refused(Edges.STATE, Made.then(five, sames(13)), x -> x.translate(NEXT));
        edges.sentence("29: If several exceptions apply, all of them are the same; no such RULE comes first");
        edges.refused(Edges.STATE, FULL, x -> x.translate(7));
        edges.refused(Edges.INDEX, FULL, x -> x.translate(-1));
    }

    private void translateAdds() {
        edges.sentence("29: an ATOM for each of its ATOMS, in order; then, from the second one on, BOTH; then .. SOME");
        Asker.Maker rule = Made.then(SMALL, x -> rules(x, 1, 1), x -> x.add(NEXT, Made.MARK, 12, 0, 0),
                x -> x.translate(NEXT));
        int[] kinds = {0, 0, 0, 3, 3, 5, 5, 5};
        int[] free = {3, 12, 0, 15, 15, 7, 3, 2};
        int[] depths = {0, 0, 0, 0, 0, 1, 2, 3};
        for (int k = 0; k < 8; k++) {
            int f = FORMULAS + k;
            edges.due(kinds[k], rule, x -> x.ofFormula(f, 0));
            edges.due(free[k], rule, x -> x.ofFormula(f, 1));
            edges.due(depths[k], rule, x -> x.ofFormula(f, 2));
        }
        edges.due(FORMULAS + 8, rule, Thimble::formulas);
        edges.sentence("29: a single ATOM: no BOTH");
        edges.due(FORMULAS, SMALL, x -> x.translate(THREE_TERMS));
        edges.due(0, SMALL, x -> x.translate(THREE_TERMS), x -> x.ofFormula(FORMULAS, 0));
        edges.due(FORMULAS + 1, SMALL, x -> x.translate(THREE_TERMS), Thimble::formulas);
        edges.sentence("29: no VARIABLE but those of the HEAD: no SOME");
        Asker.Maker heads = Made.then(SMALL, x -> x.rule(2, 0, 1, 0), x -> x.add(NEXT, Made.EDGE, 0, 1, 0),
                x -> x.add(NEXT, Made.EDGE, 1, 0, 0));
        edges.due(FORMULAS + 2, heads, x -> x.translate(NEXT));
        edges.due(3, heads, x -> x.translate(NEXT), x -> x.ofFormula(FORMULAS + 2, 0));
        edges.sentence("29: from the greatest on: the VARIABLES 0 and 5");
        Asker.Maker ends = Made.then(SMALL, x -> x.rule(0, 0, 0, 0), x -> x.add(NEXT, Made.TRIPLE, 5, 0, 3),
                x -> x.translate(NEXT));
        int[] left = {41, 9, 1, 0};
        for (int k = 0; k < 4; k++) {
            int f = FORMULAS + k;
            edges.due(left[k], ends, x -> x.ofFormula(f, 1));
        }
        edges.sentence("29: nothing is taken from the RULE, and it can be translated again");
        edges.due(FORMULAS + 7, SMALL, x -> x.translate(TWO_STEPS), x -> x.translate(TWO_STEPS));
        edges.due(2, SMALL, x -> x.translate(TWO_STEPS), x -> x.ofRule(TWO_STEPS, 0));
        edges.due(FORMULAS + 3, SMALL, x -> x.translate(TWO_STEPS));
    }

    private void translateSays() {
        edges.sentence("29: FORMULAS that say what a RULE does");
        edges.due(4, SMALL, x -> x.answers(x.translate(TWO_STEPS)));
        edges.due(2, SMALL, x -> x.answers(x.translate(1)));
        edges.due(2, SMALL, x -> x.answers(x.translate(THREE_TERMS)));
        edges.due(true, SMALL, x -> x.isSafe(x.translate(TWO_STEPS)));
        edges.due(1, SMALL, x -> x.shorten(FOUR_HIDDEN), x -> x.answers(x.translate(FOUR_HIDDEN)));
        edges.sentence("29: of what there is so far (a) and the next ATOM (b)");
        Asker.Maker three = Made.then(SMALL, x -> x.translate(1));
        edges.asked(3 + 4, three, x -> x.ofFormula(FORMULAS + 3, 1));
        edges.asked(6, three, x -> x.answers(FORMULAS + 3));
        edges.asked(2, three, x -> x.answer(FORMULAS + 4, 0, 1));
    }
}
