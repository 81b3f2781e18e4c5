/**
 * Promises 19 to 25, and what 'Terms' says of rules, telling, order and size:
 * a test for each sentence that names a boundary case.
 */
public final class RuleEdgeTests {
    private static final Asker.Maker EMPTY = Made.EMPTY;
    private static final Asker.Maker SMALL = Made.SMALL;
    private static final Asker.Maker FULL = Made.FULL;
    /** SMALL has so many RULES. */
    private static final int NEXT = 7;
    private static final int[] NO_RULE_OF_SMALL = {-1, NEXT, 8, Edges.LEAST, Edges.MOST};
    private static final int[] NO_TERM = {-1, 6, 7, 8, 9, 18, Edges.LEAST, Edges.MOST};
    private static final int[] TERMS = {0, 1, 2, 3, 4, 5, 10, 11, 12, 13, 14, 15, 16, 17};
    /** RULES of SMALL. */
    private static final int TWO_STEPS = 0;
    private static final int BARE_NOT_GROUNDED = 2;
    private static final int BARE = 3;
    private static final int NOT_GROUNDED = 4;
    private static final int THREE_TERMS = 6;

    /** The RELATIONS 0 (one PLACE, all 8 FACTS) and 1 (two PLACES, 24 FACTS), and a RULE with the HEAD 0, 1, 2. */
    private static final Asker.Maker MANY = Made.then(EMPTY, x -> x.relation(1), x -> x.relation(2), x -> {
        Made.fill(x, 0, 1, 8);
        Made.fill(x, 1, 2, 24);
        return x.rule(3, 0, 1, 2);
    });

    private final Edges edges = new Edges();

    public static void main(String[] args) {
        RuleEdgeTests tests = new RuleEdgeTests();
        tests.ruleRefused();
        tests.ruleNotLookedAt();
        tests.addRefused();
        tests.addNotLookedAt();
        tests.addFull();
        tests.rules();
        tests.ofRule();
        tests.isGrounded();
        tests.tells();
        tests.tellsMany();
        tests.tellsWithoutAtoms();
        tests.rowRefused();
        tests.rowSeveralExceptions();
        tests.orderRefused();
        tests.orderOfAtoms();
        tests.sizes();
        tests.edges.end("RuleEdgeTests");
    }

    private void ruleRefused() {
        edges.sentence("19: Throws IllegalArgumentException if many is not 0 to 3");
        for (int many : new int[] {-1, 4, Edges.LEAST, Edges.MOST}) {
            edges.refused(Edges.ARGUMENT, SMALL, x -> x.rule(many, 0, 0, 0));
            edges.refused(Edges.ARGUMENT, EMPTY, x -> x.rule(many, 0, 0, 0));
        }
        for (int k = 0; k <= 3; k++) {
            int many = k;
            edges.due(NEXT, SMALL, x -> x.rule(many, 0, 1, 2));
        }
        edges.sentence("19: .. or one that is looked at is no TERM");
        for (int wrong : NO_TERM) {
            for (int k = 1; k <= 3; k++) {
                int many = k;
                edges.refused(Edges.ARGUMENT, SMALL, x -> x.rule(many, wrong, 0, 0));
            }
            edges.refused(Edges.ARGUMENT, SMALL, x -> x.rule(2, 0, wrong, 0));
            edges.refused(Edges.ARGUMENT, SMALL, x -> x.rule(3, 0, wrong, 0));
            edges.refused(Edges.ARGUMENT, SMALL, x -> x.rule(3, 0, 0, wrong));
        }
        for (int t : TERMS) {
            edges.due(NEXT, SMALL, x -> x.rule(3, t, 0, 10));
            edges.due(NEXT, SMALL, x -> x.rule(3, 17, t, 5));
            edges.due(NEXT, SMALL, x -> x.rule(3, 5, 10, t));
        }
        edges.sentence("19: Throws IllegalStateException if there are 8");
        edges.due(7, SMALL, x -> x.rule(0, 0, 0, 0));
        edges.refused(Edges.STATE, Made.then(SMALL, x -> x.rule(0, 0, 0, 0)), x -> x.rule(0, 0, 0, 0));
        edges.refused(Edges.STATE, FULL, x -> x.rule(3, 0, 1, 2));
        edges.sentence("19: If several exceptions apply: many or a TERM is wrong, and there are 8");
        edges.refused(Edges.ARGUMENT, FULL, x -> x.rule(4, 0, 0, 0));
        edges.refused(Edges.ARGUMENT, FULL, x -> x.rule(-1, 0, 0, 0));
        edges.refused(Edges.ARGUMENT, FULL, x -> x.rule(1, 6, 0, 0));
        edges.refused(Edges.ARGUMENT, FULL, x -> x.rule(3, 0, 0, 18));
    }

    private void ruleNotLookedAt() {
        edges.sentence("19: t: not looked at, if there is none");
        for (int wrong : NO_TERM) {
            edges.due(NEXT, SMALL, x -> x.rule(0, wrong, 0, 0));
        }
        edges.sentence("19: so the others");
        for (int wrong : NO_TERM) {
            edges.due(NEXT, SMALL, x -> x.rule(0, 0, wrong, 0));
            edges.due(NEXT, SMALL, x -> x.rule(0, 0, 0, wrong));
            edges.due(NEXT, SMALL, x -> x.rule(1, 0, wrong, wrong));
            edges.due(NEXT, SMALL, x -> x.rule(2, 0, 0, wrong));
            edges.refused(Edges.STATE, FULL, x -> x.rule(0, wrong, wrong, wrong));
        }
        for (int t : TERMS) {
            edges.due(1, SMALL, x -> x.rule(0, t, t, t), x -> x.ofRule(NEXT, 1));
            edges.due(1, SMALL, x -> x.rule(1, 17, t, t), x -> x.ofRule(NEXT, 1));
            edges.due(1, SMALL, x -> x.rule(2, 17, 10, t), x -> x.ofRule(NEXT, 1));
        }
    }

    private void addRefused() {
        edges.sentence("20: Throws IndexOutOfBoundsException if there is no such RULE");
        for (int wrong : NO_RULE_OF_SMALL) {
            edges.refused(Edges.INDEX, SMALL, x -> x.add(wrong, 0, 0, 0, 0));
        }
        edges.refused(Edges.INDEX, FULL, x -> x.add(8, 0, 0, 0, 0));
        edges.sentence("20: .. or RELATION");
        for (int wrong : new int[] {-1, 3, 6, Edges.LEAST, Edges.MOST}) {
            edges.refused(Edges.INDEX, SMALL, x -> x.add(0, wrong, 0, 0, 0));
        }
        edges.refused(Edges.INDEX, Made.then(EMPTY, x -> x.rule(0, 0, 0, 0)), x -> x.add(0, 0, 0, 0, 0));
        edges.sentence("20: Throws IllegalArgumentException if one that is looked at is no TERM");
        for (int wrong : NO_TERM) {
            for (int r = 0; r < 3; r++) {
                int relation = r;
                edges.refused(Edges.ARGUMENT, SMALL, x -> x.add(0, relation, wrong, 0, 0));
            }
            edges.refused(Edges.ARGUMENT, SMALL, x -> x.add(0, Made.EDGE, 0, wrong, 0));
            edges.refused(Edges.ARGUMENT, SMALL, x -> x.add(0, Made.TRIPLE, 0, wrong, 0));
            edges.refused(Edges.ARGUMENT, SMALL, x -> x.add(0, Made.TRIPLE, 0, 0, wrong));
        }
        for (int t : TERMS) {
            edges.due(3, SMALL, x -> x.add(0, Made.TRIPLE, t, 0, 10));
            edges.due(3, SMALL, x -> x.add(0, Made.TRIPLE, 17, t, 5));
            edges.due(3, SMALL, x -> x.add(0, Made.TRIPLE, 5, 10, t));
        }
        edges.sentence("20: If several exceptions apply: no such RULE or RELATION, and no TERM");
        edges.refused(Edges.INDEX, SMALL, x -> x.add(NEXT, 0, 6, 0, 0));
        edges.refused(Edges.INDEX, SMALL, x -> x.add(0, 3, 6, 6, 6));
        edges.refused(Edges.INDEX, SMALL, x -> x.add(-1, -1, -1, -1, -1));
    }

    private void addNotLookedAt() {
        edges.sentence("20: u: not looked at, if it has no such PLACE");
        for (int wrong : NO_TERM) {
            edges.due(3, SMALL, x -> x.add(0, Made.MARK, 0, wrong, 0));
        }
        edges.sentence("20: so the third one");
        for (int wrong : NO_TERM) {
            edges.due(3, SMALL, x -> x.add(0, Made.MARK, 0, 0, wrong));
            edges.due(3, SMALL, x -> x.add(0, Made.EDGE, 0, 1, wrong));
            edges.refused(Edges.STATE, FULL, x -> x.add(0, 0, 0, wrong, wrong));
        }
        for (int k = 1; k <= 5; k++) {
            int v = k;
            Asker.Maker head = Made.then(SMALL, x -> x.rule(1, v, 0, 0));
            edges.due(0, head, x -> x.add(NEXT, Made.MARK, 0, v, v), x -> x.ofRule(NEXT, 1));
            edges.due(0, head, x -> x.add(NEXT, Made.EDGE, 0, 0, v), x -> x.ofRule(NEXT, 1));
            edges.due(1, head, x -> x.add(NEXT, Made.TRIPLE, 0, 0, v), x -> x.ofRule(NEXT, 1));
        }
    }

    private void addFull() {
        edges.sentence("20: Throws IllegalStateException if it has 5");
        Asker.Maker four = Made.then(SMALL, x -> x.add(TWO_STEPS, Made.EDGE, 0, 1, 0),
                x -> x.add(TWO_STEPS, Made.MARK, 1, 0, 0));
        edges.due(5, four, x -> x.add(TWO_STEPS, Made.TRIPLE, 0, 1, 2));
        edges.refused(Edges.STATE, Made.then(four, x -> x.add(TWO_STEPS, Made.TRIPLE, 0, 1, 2)),
                x -> x.add(TWO_STEPS, Made.TRIPLE, 0, 1, 2));
        edges.refused(Edges.STATE, FULL, x -> x.add(0, 3, 0, 0, 0));
        edges.refused(Edges.STATE, FULL, x -> x.add(7, 5, 0, 1, 2));
        edges.sentence("20: one that was taken away leaves room");
        Asker.Maker twice = Made.then(four, x -> x.add(TWO_STEPS, Made.EDGE, 0, 1, 0), x -> x.shorten(TWO_STEPS));
        edges.due(4, twice, x -> x.add(TWO_STEPS, Made.EDGE, 3, 3, 0));
        edges.sentence("20: Returns how many ATOMS the RULE has then");
        edges.due(1, SMALL, x -> x.add(BARE, Made.EDGE, 0, 1, 0));
        edges.due(3, SMALL, x -> x.add(TWO_STEPS, Made.EDGE, 0, 1, 0));
        edges.sentence("20: If several exceptions apply: no such RULE or RELATION, and it has 5");
        edges.refused(Edges.INDEX, FULL, x -> x.add(8, 0, 0, 0, 0));
        edges.refused(Edges.INDEX, FULL, x -> x.add(0, 6, 0, 0, 0));
        edges.sentence("20: If several exceptions apply: no TERM, and it has 5");
        edges.refused(Edges.ARGUMENT, FULL, x -> x.add(0, 0, 6, 0, 0));
        edges.refused(Edges.ARGUMENT, FULL, x -> x.add(0, 1, 0, 9, 0));
        edges.refused(Edges.ARGUMENT, FULL, x -> x.add(0, 2, 0, 0, 18));
    }

    private void rules() {
        edges.sentence("21: Returns how many RULES there are.");
        edges.asked(0, EMPTY, Thimble::rules);
        edges.asked(NEXT, SMALL, Thimble::rules);
        edges.asked(8, FULL, Thimble::rules);
        edges.sentence("19: Returns its number: numbered from 0");
        edges.due(0, EMPTY, x -> x.rule(0, 0, 0, 0));
        edges.due(1, EMPTY, x -> x.rule(0, 0, 0, 0), x -> x.rule(0, 0, 0, 0));
    }

    private void ofRule() {
        edges.sentence("22: Throws IndexOutOfBoundsException if there is no such RULE");
        for (int wrong : NO_RULE_OF_SMALL) {
            edges.refused(Edges.INDEX, SMALL, x -> x.ofRule(wrong, 0));
        }
        edges.refused(Edges.INDEX, FULL, x -> x.ofRule(8, 2));
        edges.sentence("22: Throws IllegalArgumentException if what is not 0 to 2");
        for (int wrong : new int[] {-1, 3, Edges.LEAST, Edges.MOST}) {
            edges.refused(Edges.ARGUMENT, SMALL, x -> x.ofRule(0, wrong));
        }
        edges.sentence("22: If several exceptions apply: no such RULE, and what is not 0 to 2");
        edges.refused(Edges.INDEX, SMALL, x -> x.ofRule(NEXT, 3));
        edges.refused(Edges.INDEX, EMPTY, x -> x.ofRule(0, -1));
        edges.sentence("22: 0 how many ATOMS it has");
        edges.asked(0, SMALL, x -> x.ofRule(BARE, 0));
        edges.asked(2, SMALL, x -> x.ofRule(TWO_STEPS, 0));
        edges.asked(5, FULL, x -> x.ofRule(7, 0));
        edges.sentence("22: 2 how many ATOMS it would have, if it was SHORTENED: it is not shortened by that");
        edges.asked(0, SMALL, x -> x.ofRule(BARE, 2));
        edges.asked(0, SMALL, x -> x.ofRule(BARE_NOT_GROUNDED, 2));
        edges.asked(1, SMALL, x -> x.ofRule(NOT_GROUNDED, 2));
        edges.asked(2, SMALL, x -> x.ofRule(TWO_STEPS, 2));
        edges.asked(2, SMALL, x -> x.ofRule(1, 2));
        edges.asked(1, SMALL, x -> x.ofRule(5, 2));
        edges.asked(5, FULL, x -> x.ofRule(0, 2));
    }

    private void isGrounded() {
        edges.sentence("22: 1 whether it is GROUNDED (0 or 1), if all VARIABLES of its HEAD are in its ATOMS");
        edges.asked(1, SMALL, x -> x.ofRule(TWO_STEPS, 1));
        edges.asked(1, SMALL, x -> x.ofRule(THREE_TERMS, 1));
        edges.asked(0, SMALL, x -> x.ofRule(NOT_GROUNDED, 1));
        edges.asked(0, FULL, x -> x.ofRule(7, 1));
        edges.asked(1, FULL, x -> x.ofRule(6, 1));
        edges.sentence("GROUNDED: a HEAD without TERMS, or of VALUES alone");
        edges.asked(1, SMALL, x -> x.ofRule(BARE, 1));
        edges.due(1, EMPTY, x -> x.rule(3, 10, 17, 10), x -> x.ofRule(0, 1));
        edges.sentence("GROUNDED: a VARIABLE in the HEAD, and no ATOMS");
        edges.asked(0, SMALL, x -> x.ofRule(BARE_NOT_GROUNDED, 1));
        for (int k = 0; k <= 5; k++) {
            int v = k;
            edges.due(0, SMALL, x -> x.rule(1, v, 0, 0), x -> x.ofRule(NEXT, 1));
            edges.due(0, SMALL, x -> x.rule(2, 10, v, 0), x -> x.ofRule(NEXT, 1));
            edges.due(0, SMALL, x -> x.rule(3, 10, 11, v), x -> x.ofRule(NEXT, 1));
            edges.due(1, SMALL, x -> x.rule(3, v, v, v), x -> x.add(NEXT, Made.MARK, v, 0, 0),
                    x -> x.ofRule(NEXT, 1));
            edges.due(1, SMALL, x -> x.rule(1, v, 0, 0), x -> x.add(NEXT, Made.TRIPLE, 10, 10, v),
                    x -> x.ofRule(NEXT, 1));
            edges.due(0, SMALL, x -> x.rule(1, v, 0, 0), x -> x.add(NEXT, Made.MARK, (v + 1) % 6, 0, 0),
                    x -> x.ofRule(NEXT, 1));
        }
    }

    private void tells() {
        edges.sentence("23: Throws IndexOutOfBoundsException if there is no such RULE");
        for (int wrong : NO_RULE_OF_SMALL) {
            edges.refused(Edges.INDEX, SMALL, x -> x.tells(wrong));
        }
        edges.refused(Edges.INDEX, FULL, x -> x.tells(8));
        edges.sentence("23: Throws IllegalStateException if it is not GROUNDED");
        edges.refused(Edges.STATE, SMALL, x -> x.tells(BARE_NOT_GROUNDED));
        edges.refused(Edges.STATE, SMALL, x -> x.tells(NOT_GROUNDED));
        edges.refused(Edges.STATE, FULL, x -> x.tells(7));
        edges.due(2, SMALL, x -> x.add(NOT_GROUNDED, Made.MARK, 4, 0, 0), x -> x.tells(NOT_GROUNDED));
        edges.sentence("TELLS: with which all its ATOMS HOLD");
        edges.asked(4, SMALL, x -> x.tells(TWO_STEPS));
        edges.asked(2, SMALL, x -> x.tells(1));
        edges.asked(2, SMALL, x -> x.tells(THREE_TERMS));
        edges.due(0, SMALL, x -> x.add(TWO_STEPS, Made.EDGE, 0, 0, 0), x -> x.tells(TWO_STEPS));
        edges.due(0, SMALL, x -> x.relation(1), x -> x.add(TWO_STEPS, 3, 1, 0, 0), x -> x.tells(TWO_STEPS));
        edges.sentence("TELLS: with the VALUE 0, too");
        for (int k = 0; k < 6; k++) {
            int a = k;
            int b = (k + 1) % 6;
            int c = (k + 2) % 6;
            Asker.Maker zero = Made.then(EMPTY, x -> x.relation(2), x -> x.fact(0, 0, 1, 0), x -> x.fact(0, 0, 5, 0),
                    x -> x.fact(0, 1, 0, 0), x -> x.fact(0, 1, 5, 0), x -> x.rule(2, a, b, 0),
                    x -> x.add(0, 0, b, a, 0), x -> x.add(0, 0, a, c, 0), x -> x.add(0, 0, b, c, 0));
            edges.asked(2, zero, x -> x.tells(0));
            edges.asked(0, zero, x -> x.row(0, 0, 0));
            edges.asked(1, zero, x -> x.row(0, 0, 1));
            edges.asked(1, zero, x -> x.row(0, 1, 0));
        }
        edges.sentence("TELLS: a FACT that was taken away leaves nothing, also of a VARIABLE that is in it twice");
        for (int k = 0; k < 6; k++) {
            int v = k;
            int w = (k + 1) % 6;
            Asker.Maker other = Made.then(EMPTY, x -> x.relation(3), x -> x.fact(0, 0, 0, 0), x -> x.drop(0, 0),
                    x -> x.fact(0, 0, 1, 2), x -> x.rule(0, 0, 0, 0));
            edges.due(0, other, x -> x.add(0, 0, v, v, w), x -> x.tells(0));
            edges.due(0, other, x -> x.add(0, 0, v, w, v), x -> x.tells(0));
            edges.due(0, other, x -> x.add(0, 0, w, v, v), x -> x.order(0, 0, 1));
            edges.due(1, other, x -> x.add(0, 0, w, v, (v + 2) % 6), x -> x.tells(0));
        }
        edges.sentence("TELLS: (each row once)");
        edges.asked(1, SMALL, x -> x.tells(5));
        edges.due(3, SMALL, x -> x.rule(1, 0, 0, 0), x -> x.add(NEXT, Made.EDGE, 0, 1, 0), x -> x.tells(NEXT));
        edges.due(1, SMALL, x -> x.rule(2, 10, 17, 0), x -> x.add(NEXT, Made.EDGE, 0, 1, 0), x -> x.tells(NEXT));
    }

    private void tellsMany() {
        edges.sentence("TELLS: all rows of three VALUES, told in order, as FACTS");
        Asker.Maker all = Made.then(MANY, x -> x.add(0, 0, 2, 0, 0), x -> x.add(0, 0, 0, 0, 0),
                x -> x.add(0, 0, 1, 0, 0));
        edges.asked(512, all, x -> x.tells(0));
        for (int place : new int[] {0, 1, 7, 8, 63, 64, 83, 511}) {
            for (int k = 0; k < 3; k++) {
                int which = k;
                edges.due(place >> 3 * (2 - which) & 7, all, x -> x.row(0, place, which));
            }
        }
        edges.refused(Edges.INDEX, all, x -> x.row(0, 512, 0));
        edges.sentence("TELLS: with 5 ATOMS and all 6 VARIABLES");
        Asker.Maker most = Made.then(all, x -> x.add(0, 0, 5, 0, 0), x -> x.add(0, 1, 3, 4, 0));
        edges.asked(512, most, x -> x.tells(0));
        edges.due(0, Made.then(all, x -> x.relation(1), x -> x.add(0, 0, 5, 0, 0), x -> x.add(0, 2, 3, 0, 0)),
                x -> x.tells(0));
    }

    private void tellsWithoutAtoms() {
        edges.sentence("TELLS: without ATOMS the one of its HEAD");
        edges.asked(1, SMALL, x -> x.tells(BARE));
        edges.due(1, EMPTY, x -> x.rule(0, 0, 0, 0), x -> x.tells(0));
        Asker.Maker values = Made.then(EMPTY, x -> x.rule(3, 17, 10, 13));
        edges.asked(1, values, x -> x.tells(0));
        edges.asked(7, values, x -> x.row(0, 0, 0));
        edges.asked(0, values, x -> x.row(0, 0, 1));
        edges.asked(3, values, x -> x.row(0, 0, 2));
        edges.refused(Edges.INDEX, values, x -> x.row(0, 1, 0));
        edges.sentence("TELLS: a HEAD without TERMS: the empty row, or none");
        edges.asked(1, SMALL, x -> x.tells(5));
        edges.due(0, SMALL, x -> x.add(BARE, Made.EDGE, 3, 3, 0), x -> x.tells(BARE));
        edges.due(1, SMALL, x -> x.add(BARE, Made.EDGE, 11, 12, 0), x -> x.tells(BARE));
        edges.due(0, SMALL, x -> x.add(BARE, Made.EDGE, 12, 11, 0), x -> x.tells(BARE));
    }

    private void rowRefused() {
        edges.sentence("24: Throws IndexOutOfBoundsException if there is no such RULE");
        for (int wrong : NO_RULE_OF_SMALL) {
            edges.refused(Edges.INDEX, SMALL, x -> x.row(wrong, 0, 0));
        }
        edges.refused(Edges.INDEX, FULL, x -> x.row(8, 0, 0));
        edges.sentence("24: .. or, if it is GROUNDED, no such row");
        for (int wrong : new int[] {-1, 4, Edges.LEAST, Edges.MOST}) {
            edges.refused(Edges.INDEX, SMALL, x -> x.row(TWO_STEPS, wrong, 0));
        }
        edges.refused(Edges.INDEX, SMALL, x -> x.row(BARE, 1, 0));
        edges.refused(Edges.INDEX, Made.then(SMALL, x -> x.add(TWO_STEPS, Made.EDGE, 0, 0, 0)),
                x -> x.row(TWO_STEPS, 0, 0));
        edges.asked(3, SMALL, x -> x.row(TWO_STEPS, 3, 0));
        edges.asked(2, SMALL, x -> x.row(TWO_STEPS, 3, 1));
        edges.sentence("24: Throws IllegalStateException if it is not GROUNDED");
        edges.refused(Edges.STATE, SMALL, x -> x.row(BARE_NOT_GROUNDED, 0, 0));
        edges.refused(Edges.STATE, SMALL, x -> x.row(NOT_GROUNDED, 0, 0));
        edges.refused(Edges.STATE, FULL, x -> x.row(7, 0, 0));
        edges.sentence("24: Throws IllegalArgumentException if which is less than 0");
        for (int wrong : new int[] {-1, Edges.LEAST}) {
            edges.refused(Edges.ARGUMENT, SMALL, x -> x.row(TWO_STEPS, 0, wrong));
            edges.refused(Edges.ARGUMENT, SMALL, x -> x.row(BARE, 0, wrong));
        }
        edges.sentence("24: .. or its HEAD has no so many");
        edges.refused(Edges.ARGUMENT, SMALL, x -> x.row(BARE, 0, 0));
        edges.refused(Edges.ARGUMENT, SMALL, x -> x.row(1, 0, 1));
        edges.refused(Edges.ARGUMENT, SMALL, x -> x.row(TWO_STEPS, 3, 2));
        edges.refused(Edges.ARGUMENT, SMALL, x -> x.row(THREE_TERMS, 0, 3));
        edges.refused(Edges.ARGUMENT, SMALL, x -> x.row(THREE_TERMS, 0, Edges.MOST));
        edges.asked(4, SMALL, x -> x.row(THREE_TERMS, 1, 2));
    }

    private void rowSeveralExceptions() {
        edges.sentence("24: If several exceptions apply: no such RULE, and which is wrong");
        edges.refused(Edges.INDEX, SMALL, x -> x.row(NEXT, -1, -1));
        edges.sentence("24: If several exceptions apply: it is not GROUNDED, and no such row");
        edges.refused(Edges.STATE, SMALL, x -> x.row(NOT_GROUNDED, -1, 0));
        edges.refused(Edges.STATE, SMALL, x -> x.row(BARE_NOT_GROUNDED, Edges.MOST, 0));
        edges.sentence("24: If several exceptions apply: it is not GROUNDED, and which is wrong");
        edges.refused(Edges.STATE, SMALL, x -> x.row(NOT_GROUNDED, 0, -1));
        edges.refused(Edges.STATE, SMALL, x -> x.row(NOT_GROUNDED, 0, 1));
        edges.refused(Edges.STATE, SMALL, x -> x.row(NOT_GROUNDED, -1, 1));
        edges.sentence("24: If several exceptions apply: no such row, and which is wrong");
        edges.refused(Edges.INDEX, SMALL, x -> x.row(TWO_STEPS, 4, -1));
        edges.refused(Edges.INDEX, SMALL, x -> x.row(TWO_STEPS, -1, 2));
        edges.refused(Edges.INDEX, SMALL, x -> x.row(BARE, 1, 0));
    }

    private void orderRefused() {
        edges.sentence("25: Throws IndexOutOfBoundsException if there is no such RULE");
        for (int wrong : NO_RULE_OF_SMALL) {
            edges.refused(Edges.INDEX, SMALL, x -> x.order(wrong, 0, 0));
        }
        edges.refused(Edges.INDEX, FULL, x -> x.order(8, 0, 1));
        edges.sentence("25: .. or place");
        for (int wrong : new int[] {-1, 2, 5, Edges.LEAST, Edges.MOST}) {
            edges.refused(Edges.INDEX, SMALL, x -> x.order(TWO_STEPS, wrong, 0));
            edges.refused(Edges.INDEX, SMALL, x -> x.order(TWO_STEPS, wrong, 1));
        }
        edges.refused(Edges.INDEX, SMALL, x -> x.order(BARE, 0, 0));
        edges.refused(Edges.INDEX, SMALL, x -> x.order(BARE_NOT_GROUNDED, 0, 1));
        edges.refused(Edges.INDEX, FULL, x -> x.order(0, 5, 0));
        edges.sentence("25: Throws IllegalArgumentException if what is neither");
        for (int wrong : new int[] {-1, 2, Edges.LEAST, Edges.MOST}) {
            edges.refused(Edges.ARGUMENT, SMALL, x -> x.order(TWO_STEPS, 0, wrong));
            edges.refused(Edges.ARGUMENT, FULL, x -> x.order(0, 4, wrong));
        }
        edges.sentence("25: If several exceptions apply: no such RULE or place, and what is neither");
        edges.refused(Edges.INDEX, SMALL, x -> x.order(NEXT, 0, 2));
        edges.refused(Edges.INDEX, SMALL, x -> x.order(TWO_STEPS, 2, 2));
        edges.refused(Edges.INDEX, SMALL, x -> x.order(BARE, 0, -1));
        edges.sentence("25: GROUNDED or not");
        edges.asked(0, SMALL, x -> x.order(NOT_GROUNDED, 0, 0));
        edges.asked(2, SMALL, x -> x.order(NOT_GROUNDED, 0, 1));
    }

    private void ordered(String want, Asker.Maker maker) {
        edges.due(want, maker, x -> {
            StringBuilder all = new StringBuilder();
            for (int k = 0; k < x.ofRule(NEXT, 0); k++) {
                all.append(x.order(NEXT, k, 0));
            }
            return all;
        });
    }

    /** SMALL, and the RULE NEXT with an empty HEAD. */
    private static Asker.Maker withRule(Asker.Call... adding) {
        return Made.then(Made.then(SMALL, x -> x.rule(0, 0, 0, 0)), adding);
    }

    private void orderOfAtoms() {
        edges.sentence("ORDER: with the most PLACES whose TERM is known (a VALUE ..");
        ordered("10", withRule(x -> x.add(NEXT, Made.TRIPLE, 0, 1, 2), x -> x.add(NEXT, Made.EDGE, 3, 10, 0)));
        ordered("10", withRule(x -> x.add(NEXT, Made.MARK, 10, 0, 0), x -> x.add(NEXT, Made.EDGE, 17, 10, 0)));
        edges.sentence("ORDER: .. or a VARIABLE in those that came)");
        ordered("021", withRule(x -> x.add(NEXT, Made.MARK, 0, 0, 0), x -> x.add(NEXT, Made.TRIPLE, 1, 2, 3),
                x -> x.add(NEXT, Made.EDGE, 0, 5, 0)));
        ordered("021", withRule(x -> x.add(NEXT, Made.MARK, 0, 0, 0), x -> x.add(NEXT, Made.TRIPLE, 0, 2, 3),
                x -> x.add(NEXT, Made.EDGE, 0, 0, 0)));
        edges.sentence("ORDER: a VARIABLE that is there twice is not known by that");
        ordered("01", withRule(x -> x.add(NEXT, Made.EDGE, 0, 1, 0), x -> x.add(NEXT, Made.EDGE, 2, 2, 0)));
        edges.sentence("ORDER: of several that of the RELATION with the fewest FACTS");
        ordered("10", withRule(x -> x.add(NEXT, Made.EDGE, 0, 1, 0), x -> x.add(NEXT, Made.MARK, 2, 0, 0)));
        ordered("210", withRule(x -> x.relation(3), x -> x.add(NEXT, Made.EDGE, 0, 1, 0),
                x -> x.add(NEXT, Made.MARK, 2, 0, 0), x -> x.add(NEXT, 3, 3, 4, 5)));
        ordered("10", withRule(x -> x.add(NEXT, Made.EDGE, 0, 1, 0), x -> x.add(NEXT, Made.MARK, 2, 0, 0),
                x -> x.fact(Made.MARK, 0, 0, 0)));
        ordered("01", withRule(x -> x.add(NEXT, Made.EDGE, 0, 1, 0), x -> x.add(NEXT, Made.MARK, 2, 0, 0),
                x -> x.fact(Made.MARK, 0, 0, 0), x -> x.fact(Made.MARK, 1, 0, 0)));
        edges.sentence("ORDER: of several the first one");
        ordered("01", withRule(x -> x.add(NEXT, Made.TRIPLE, 0, 1, 2), x -> x.add(NEXT, Made.MARK, 3, 0, 0)));
        ordered("01", withRule(x -> x.add(NEXT, Made.MARK, 3, 0, 0), x -> x.add(NEXT, Made.TRIPLE, 0, 1, 2)));
        ordered("01234", withRule(x -> x.add(NEXT, Made.MARK, 0, 0, 0), x -> x.add(NEXT, Made.MARK, 1, 0, 0),
                x -> x.add(NEXT, Made.MARK, 2, 0, 0), x -> x.add(NEXT, Made.MARK, 3, 0, 0),
                x -> x.add(NEXT, Made.MARK, 4, 0, 0)));
        ordered("04321", withRule(x -> x.add(NEXT, Made.EDGE, 0, 1, 0), x -> x.add(NEXT, Made.EDGE, 4, 5, 0),
                x -> x.add(NEXT, Made.EDGE, 3, 4, 0), x -> x.add(NEXT, Made.EDGE, 2, 3, 0),
                x -> x.add(NEXT, Made.EDGE, 1, 2, 0)));
    }

    private void sized(Asker.Maker maker, int... want) {
        for (int k = 0; k < want.length; k++) {
            int place = k;
            edges.due(want[place], maker, x -> x.order(x.rules() - 1, place, 1));
        }
    }

    private void sizes() {
        edges.sentence("SIZE: with how many rows of VALUES, for the VARIABLES known then, all that came HOLD");
        sized(withRule(x -> x.add(NEXT, Made.EDGE, 0, 1, 0), x -> x.add(NEXT, Made.EDGE, 1, 2, 0)), 4, 4);
        sized(withRule(x -> x.add(NEXT, Made.TRIPLE, 0, 0, 1)), 1);
        edges.sentence("SIZE: no VARIABLE is known: 1 if all that came HOLD, or 0");
        sized(withRule(x -> x.add(NEXT, Made.EDGE, 11, 12, 0)), 1);
        sized(withRule(x -> x.add(NEXT, Made.EDGE, 12, 11, 0)), 0);
        sized(withRule(x -> x.add(NEXT, Made.EDGE, 11, 12, 0), x -> x.add(NEXT, Made.EDGE, 11, 12, 0)), 1, 1);
        edges.sentence("SIZE: behind 0 all are 0");
        sized(withRule(x -> x.add(NEXT, Made.EDGE, 12, 11, 0), x -> x.add(NEXT, Made.MARK, 0, 0, 0)), 0, 0);
        sized(withRule(x -> x.relation(1), x -> x.add(NEXT, Made.MARK, 0, 0, 0), x -> x.add(NEXT, 3, 1, 0, 0)), 0, 0);
        edges.sentence("SIZE: the greatest that there can be");
        sized(Made.then(MANY, x -> x.add(0, 1, 4, 5, 0), x -> x.add(0, 0, 0, 0, 0), x -> x.add(0, 0, 1, 0, 0),
                x -> x.add(0, 0, 2, 0, 0), x -> x.add(0, 0, 3, 0, 0)), 8, 64, 512, 4096, 98304);
        sized(Made.then(MANY, x -> x.add(0, 1, 4, 5, 0), x -> x.add(0, 1, 2, 3, 0), x -> x.add(0, 1, 0, 1, 0)),
                24, 576, 13824);
        edges.sentence("SIZE: a VARIABLE of the HEAD that is in no ATOM does not count");
        edges.asked(2, SMALL, x -> x.order(NOT_GROUNDED, 0, 1));
    }
}
