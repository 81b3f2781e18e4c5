/**
 * Promises 8 to 13, and what 'Terms' says of terms, depth and length:
 * a test for each sentence that names a boundary case.
 */
public final class FormulaEdgeTests {
    private static final Asker.Maker EMPTY = Made.EMPTY;
    private static final Asker.Maker SMALL = Made.SMALL;
    private static final Asker.Maker FULL = Made.FULL;
    /** SMALL has so many FORMULAS. */
    private static final int NEXT = 16;
    private static final int[] NO_FORMULA_OF_SMALL = {-1, NEXT, 40, Edges.LEAST, Edges.MOST};
    private static final int[] NO_TERM = {-1, 6, 7, 8, 9, 18, Edges.LEAST, Edges.MOST};
    private static final int[] TERMS = {0, 1, 2, 3, 4, 5, 10, 11, 12, 13, 14, 15, 16, 17};

    /** 39 FORMULAS, of which the first is an ATOM. */
    private static final Asker.Maker THIRTY_NINE = () -> {
        Thimble x = new Thimble();
        x.relation(1);
        x.atom(0, 0, 0, 0);
        for (int k = 1; k < 39; k++) {
            x.same(0, 1);
        }
        return x;
    };

    /** The LENGTHS of its FORMULAS. */
    private static final int[] LONG_LENGTHS = {1, 3, 7, 15, 31, 39, 40, 2, 3, 4, 5, 6, 38};
    private static final Asker.Maker LONG = () -> {
        Thimble x = new Thimble();
        x.relation(1);
        x.atom(0, 0, 0, 0);
        for (int k = 0; k < 4; k++) {
            x.join(true, k, k);
        }
        x.join(true, 4, 2);
        x.not(5);
        x.not(0);
        for (int k = 7; k < 11; k++) {
            x.not(k);
        }
        x.join(false, 4, 11);
        return x;
    };

    /** DEPTH k is that of the FORMULA k, 0 to 3. */
    private static final Asker.Maker DEEP = () -> {
        Thimble x = new Thimble();
        x.relation(1);
        x.atom(0, 0, 0, 0);
        x.bind(true, 0, 0);
        x.bind(false, 0, 1);
        x.bind(true, 1, 2);
        return x;
    };

    private final Edges edges = new Edges();

    public static void main(String[] args) {
        FormulaEdgeTests tests = new FormulaEdgeTests();
        tests.atomRefused();
        tests.atomTerms();
        tests.atomNotLookedAt();
        tests.atomFull();
        tests.same();
        tests.not();
        tests.join();
        tests.bindRefused();
        tests.bindSeveralExceptions();
        tests.depth();
        tests.length();
        tests.formulas();
        tests.edges.end("FormulaEdgeTests");
    }

    private void atomRefused() {
        edges.sentence("8: Throws IndexOutOfBoundsException if there is no such RELATION");
        for (int wrong : new int[] {-1, 3, 6, Edges.LEAST, Edges.MOST}) {
            edges.refused(Edges.INDEX, SMALL, x -> x.atom(wrong, 0, 0, 0));
        }
        edges.sentence("8: Throws IllegalArgumentException if one that is looked at is no TERM");
        for (int wrong : NO_TERM) {
            for (int r = 0; r < 3; r++) {
                int relation = r;
                edges.refused(Edges.ARGUMENT, SMALL, x -> x.atom(relation, wrong, 0, 0));
            }
            edges.refused(Edges.ARGUMENT, SMALL, x -> x.atom(Made.EDGE, 0, wrong, 0));
            edges.refused(Edges.ARGUMENT, SMALL, x -> x.atom(Made.TRIPLE, 0, wrong, 0));
            edges.refused(Edges.ARGUMENT, SMALL, x -> x.atom(Made.TRIPLE, 0, 0, wrong));
        }
        edges.sentence("8: If several exceptions apply: no such RELATION, and no TERM");
        edges.refused(Edges.INDEX, SMALL, x -> x.atom(3, 6, 6, 6));
        edges.refused(Edges.INDEX, SMALL, x -> x.atom(-1, 9, 0, 0));
        edges.refused(Edges.INDEX, FULL, x -> x.atom(6, 18, 0, 0));
    }

    private static int variablesOf(int... terms) {
        int set = 0;
        for (int t : terms) {
            set |= t < 10 ? 1 << t : 0;
        }
        return set;
    }

    private static int valuesOf(int... terms) {
        int set = 0;
        for (int t : terms) {
            set |= t < 10 ? 0 : 1 << t - 10;
        }
        return set;
    }

    private void atomTerms() {
        edges.sentence("TERMS: 0 to 5 are VARIABLES, 10 to 17 the VALUES 0 to 7.");
        Asker.Maker bare = Made.then(EMPTY, x -> x.relation(1), x -> x.relation(2), x -> x.relation(3));
        for (int t : TERMS) {
            for (int u : TERMS) {
                edges.due(0, bare, x -> x.atom(2, t, u, t));
                edges.due(variablesOf(t, u), bare, x -> x.atom(2, u, t, u), x -> x.ofFormula(0, 1));
                edges.due(valuesOf(t, u), bare, x -> x.atom(1, t, u, 0), x -> x.ofFormula(0, 5));
                edges.due(valuesOf(t, u), bare, x -> x.same(t, u), x -> x.ofFormula(0, 5));
                edges.due(variablesOf(t, u), bare, x -> x.same(t, u), x -> x.ofFormula(0, 1));
            }
            edges.due(0, bare, x -> x.atom(0, t, 99, 99));
        }
        for (int k = 0; k <= 7; k++) {
            int value = k;
            Asker.Maker one = Made.then(bare, x -> x.fact(0, value, 0, 0));
            for (int other = 0; other <= 7; other++) {
                int term = 10 + other;
                edges.due(other == value ? 1 : 0, one, x -> x.atom(0, term, 0, 0), x -> x.answers(0));
            }
        }
    }

    private void atomNotLookedAt() {
        edges.sentence("8: u: not looked at, if it has no such PLACE");
        for (int wrong : NO_TERM) {
            edges.due(NEXT, SMALL, x -> x.atom(Made.MARK, 0, wrong, 0));
        }
        for (int u : TERMS) {
            edges.due(1, SMALL, x -> x.atom(Made.MARK, 0, u, 10), x -> x.ofFormula(NEXT, 1));
            edges.due(30, SMALL, x -> x.atom(Made.MARK, 0, u, 0), x -> x.ofFormula(NEXT, 5));
        }
        edges.sentence("8: so the third one");
        for (int wrong : NO_TERM) {
            edges.due(NEXT, SMALL, x -> x.atom(Made.MARK, 0, 0, wrong));
            edges.due(NEXT, SMALL, x -> x.atom(Made.EDGE, 0, 0, wrong));
            edges.refused(Edges.STATE, FULL, x -> x.atom(1, 0, 0, wrong));
        }
        for (int v : TERMS) {
            edges.due(3, SMALL, x -> x.atom(Made.EDGE, 0, 1, v), x -> x.ofFormula(NEXT, 1));
            edges.due(30, SMALL, x -> x.atom(Made.EDGE, 0, 1, v), x -> x.ofFormula(NEXT, 5));
        }
    }

    private void atomFull() {
        edges.sentence("8: Throws IllegalStateException if there are 40");
        edges.due(39, THIRTY_NINE, x -> x.atom(0, 5, 0, 0));
        Asker.Maker forty = Made.then(THIRTY_NINE, x -> x.atom(0, 5, 0, 0));
        edges.refused(Edges.STATE, forty, x -> x.atom(0, 0, 0, 0));
        edges.refused(Edges.STATE, FULL, x -> x.atom(2, 0, 1, 2));
        edges.sentence("8: If several exceptions apply: no such RELATION, and there are 40");
        edges.refused(Edges.INDEX, FULL, x -> x.atom(6, 0, 0, 0));
        edges.sentence("8: If several exceptions apply: no TERM, and there are 40");
        edges.refused(Edges.ARGUMENT, FULL, x -> x.atom(0, 6, 0, 0));
        edges.refused(Edges.ARGUMENT, FULL, x -> x.atom(1, 0, 9, 0));
        edges.refused(Edges.ARGUMENT, FULL, x -> x.atom(2, 0, 0, 18));
    }

    private void same() {
        edges.sentence("9: Throws IllegalArgumentException if one is no TERM");
        for (int wrong : NO_TERM) {
            edges.refused(Edges.ARGUMENT, SMALL, x -> x.same(wrong, 0));
            edges.refused(Edges.ARGUMENT, SMALL, x -> x.same(0, wrong));
            edges.refused(Edges.ARGUMENT, EMPTY, x -> x.same(wrong, wrong));
        }
        for (int t : TERMS) {
            edges.due(NEXT, SMALL, x -> x.same(t, 0));
            edges.due(NEXT, SMALL, x -> x.same(0, t));
        }
        edges.sentence("9: Throws IllegalStateException if there are 40");
        edges.due(39, THIRTY_NINE, x -> x.same(0, 0));
        edges.refused(Edges.STATE, Made.then(THIRTY_NINE, x -> x.same(0, 0)), x -> x.same(0, 0));
        edges.refused(Edges.STATE, FULL, x -> x.same(0, 17));
        edges.sentence("9: If several exceptions apply: no TERM, and there are 40");
        edges.refused(Edges.ARGUMENT, FULL, x -> x.same(6, 0));
        edges.refused(Edges.ARGUMENT, FULL, x -> x.same(0, 18));
    }

    private void not() {
        edges.sentence("10: Throws IndexOutOfBoundsException if there is no such FORMULA");
        for (int wrong : NO_FORMULA_OF_SMALL) {
            edges.refused(Edges.INDEX, SMALL, x -> x.not(wrong));
        }
        edges.due(NEXT, SMALL, x -> x.not(0));
        edges.due(NEXT, SMALL, x -> x.not(NEXT - 1));
        edges.sentence("10: Throws IllegalStateException if there are 40");
        edges.due(39, THIRTY_NINE, x -> x.not(38));
        edges.refused(Edges.STATE, Made.then(THIRTY_NINE, x -> x.not(0)), x -> x.not(0));
        edges.refused(Edges.STATE, FULL, x -> x.not(39));
        edges.sentence("10: .. or the LENGTH would be above 40");
        edges.due(13, LONG, x -> x.not(5));
        edges.due(13, LONG, x -> x.not(12));
        edges.refused(Edges.STATE, LONG, x -> x.not(6));
        edges.refused(Edges.STATE, Made.then(LONG, x -> x.not(12), x -> x.not(13)), x -> x.not(14));
        edges.sentence("10: If several exceptions apply: no such FORMULA, and there are 40");
        edges.refused(Edges.INDEX, FULL, x -> x.not(40));
        edges.refused(Edges.INDEX, FULL, x -> x.not(-1));
    }

    private void join() {
        edges.sentence("11: Throws IndexOutOfBoundsException if there is no such FORMULA");
        for (int wrong : NO_FORMULA_OF_SMALL) {
            edges.refused(Edges.INDEX, SMALL, x -> x.join(true, wrong, 0));
            edges.refused(Edges.INDEX, SMALL, x -> x.join(true, 0, wrong));
            edges.refused(Edges.INDEX, SMALL, x -> x.join(false, wrong, 0));
            edges.refused(Edges.INDEX, SMALL, x -> x.join(false, 0, wrong));
        }
        edges.due(NEXT, SMALL, x -> x.join(true, NEXT - 1, 0));
        edges.due(NEXT, SMALL, x -> x.join(false, 0, NEXT - 1));
        edges.sentence("11: Throws IllegalStateException if there are 40");
        edges.due(39, THIRTY_NINE, x -> x.join(true, 0, 38));
        edges.due(39, THIRTY_NINE, x -> x.join(false, 38, 0));
        edges.refused(Edges.STATE, Made.then(THIRTY_NINE, x -> x.join(true, 0, 0)), x -> x.join(true, 0, 0));
        edges.refused(Edges.STATE, FULL, x -> x.join(true, 0, 39));
        edges.refused(Edges.STATE, FULL, x -> x.join(false, 39, 0));
        edges.sentence("11: .. or the LENGTH would be above 40");
        edges.due(13, LONG, x -> x.join(true, 12, 0));
        edges.due(13, LONG, x -> x.join(false, 0, 12));
        edges.due(13, LONG, x -> x.join(false, 4, 2));
        edges.refused(Edges.STATE, LONG, x -> x.join(true, 5, 0));
        edges.refused(Edges.STATE, LONG, x -> x.join(false, 0, 5));
        edges.refused(Edges.STATE, LONG, x -> x.join(true, 4, 3));
        edges.refused(Edges.STATE, LONG, x -> x.join(false, 4, 4));
        edges.refused(Edges.STATE, LONG, x -> x.join(false, 6, 6));
        edges.sentence("11: If several exceptions apply: no such FORMULA, and there are 40");
        edges.refused(Edges.INDEX, FULL, x -> x.join(true, 40, 0));
        edges.refused(Edges.INDEX, FULL, x -> x.join(false, 0, -1));
        edges.sentence("11: If several exceptions apply: no such b, and the LENGTH of a alone would be above 40");
        edges.refused(Edges.INDEX, LONG, x -> x.join(true, 6, 13));
        edges.refused(Edges.INDEX, LONG, x -> x.join(true, -1, 6));
    }

    private void bindRefused() {
        edges.sentence("12: Throws IndexOutOfBoundsException if there is no such FORMULA");
        for (int wrong : NO_FORMULA_OF_SMALL) {
            edges.refused(Edges.INDEX, SMALL, x -> x.bind(true, 0, wrong));
            edges.refused(Edges.INDEX, SMALL, x -> x.bind(false, 0, wrong));
        }
        edges.due(NEXT, SMALL, x -> x.bind(true, 0, NEXT - 1));
        edges.sentence("12: Throws IllegalArgumentException if v is no VARIABLE");
        for (int wrong : new int[] {-1, 6, 9, 10, 17, Edges.LEAST, Edges.MOST}) {
            edges.refused(Edges.ARGUMENT, SMALL, x -> x.bind(true, wrong, 0));
            edges.refused(Edges.ARGUMENT, SMALL, x -> x.bind(false, wrong, 0));
        }
        for (int k = 0; k <= 5; k++) {
            int v = k;
            edges.due(NEXT, SMALL, x -> x.bind(v % 2 == 0, v, 0));
        }
        edges.sentence("12: .. or the DEPTH would be above 3");
        edges.due(4, DEEP, x -> x.bind(true, 0, 2));
        edges.refused(Edges.ARGUMENT, DEEP, x -> x.bind(true, 0, 3));
        edges.refused(Edges.ARGUMENT, DEEP, x -> x.bind(false, 0, 3));
        edges.refused(Edges.ARGUMENT, SMALL, x -> x.bind(true, 3, 12));
        edges.sentence("12: Throws IllegalStateException if there are 40");
        edges.due(39, THIRTY_NINE, x -> x.bind(true, 5, 38));
        edges.refused(Edges.STATE, Made.then(THIRTY_NINE, x -> x.bind(true, 0, 0)), x -> x.bind(true, 0, 0));
        edges.refused(Edges.STATE, FULL, x -> x.bind(false, 0, 39));
        edges.sentence("12: .. or the LENGTH would be above 40");
        edges.due(13, LONG, x -> x.bind(true, 0, 5));
        edges.refused(Edges.STATE, LONG, x -> x.bind(true, 0, 6));
        edges.refused(Edges.STATE, LONG, x -> x.bind(false, 5, 6));
    }

    private void bindSeveralExceptions() {
        edges.sentence("12: If several exceptions apply: no such FORMULA, and v is no VARIABLE");
        edges.refused(Edges.INDEX, SMALL, x -> x.bind(true, 6, NEXT));
        edges.refused(Edges.INDEX, SMALL, x -> x.bind(false, -1, -1));
        edges.sentence("12: If several exceptions apply: no such FORMULA, and there are 40");
        edges.refused(Edges.INDEX, FULL, x -> x.bind(true, 0, 40));
        edges.refused(Edges.INDEX, FULL, x -> x.bind(true, 6, 40));
        edges.sentence("12: If several exceptions apply: v is no VARIABLE, and there are 40");
        edges.refused(Edges.ARGUMENT, FULL, x -> x.bind(true, 6, 0));
        edges.sentence("12: If several exceptions apply: v is no VARIABLE, and the LENGTH would be above 40");
        edges.refused(Edges.ARGUMENT, LONG, x -> x.bind(true, 10, 6));
        edges.sentence("12: If several exceptions apply: the DEPTH would be above 3, and there are 40");
        edges.refused(Edges.ARGUMENT, FULL, x -> x.bind(true, 0, 7));
        edges.sentence("12: If several exceptions apply: the DEPTH and the LENGTH would be too much");
        Asker.Maker both = Made.then(LONG, x -> x.join(true, 4, 10), x -> x.bind(true, 0, 13),
                x -> x.bind(true, 1, 14), x -> x.bind(true, 2, 15));
        edges.due(3, both, x -> x.ofFormula(16, 2));
        edges.refused(Edges.STATE, both, x -> x.not(16));
        edges.refused(Edges.ARGUMENT, both, x -> x.bind(true, 3, 16));
        edges.refused(Edges.ARGUMENT, FULL, x -> x.bind(false, 3, 19));
    }

    private void depth() {
        edges.sentence("DEPTH: 0 of ATOM and SAME");
        edges.asked(0, SMALL, x -> x.ofFormula(0, 2));
        edges.asked(0, SMALL, x -> x.ofFormula(4, 2));
        edges.sentence("DEPTH: the greatest of what is named");
        edges.due(3, DEEP, x -> x.not(3), x -> x.ofFormula(4, 2));
        edges.due(3, DEEP, x -> x.join(true, 3, 0), x -> x.ofFormula(4, 2));
        edges.due(3, DEEP, x -> x.join(true, 0, 3), x -> x.ofFormula(4, 2));
        edges.due(2, DEEP, x -> x.join(false, 2, 1), x -> x.ofFormula(4, 2));
        edges.due(2, DEEP, x -> x.join(false, 1, 2), x -> x.ofFormula(4, 2));
        edges.due(1, DEEP, x -> x.join(false, 1, 1), x -> x.ofFormula(4, 2));
        edges.sentence("DEPTH: 1 more with SOME and EVERY; at most 3");
        for (int k = 0; k <= 3; k++) {
            int depth = k;
            edges.asked(depth, DEEP, x -> x.ofFormula(depth, 2));
        }
        edges.refused(Edges.ARGUMENT, Made.then(DEEP, x -> x.not(3)), x -> x.bind(true, 0, 4));
        edges.refused(Edges.ARGUMENT, Made.then(DEEP, x -> x.join(true, 0, 3)), x -> x.bind(false, 0, 4));
        edges.refused(Edges.ARGUMENT, Made.then(DEEP, x -> x.join(false, 3, 0)), x -> x.bind(true, 5, 4));
        edges.due(3, Made.then(DEEP, x -> x.join(true, 1, 2)), x -> x.bind(false, 0, 4), x -> x.ofFormula(5, 2));
    }

    private void length() {
        edges.sentence("LENGTH: those of what is named together (what is named twice counts twice); at most 40");
        for (int formula : new int[] {3, 4, 5, 12}) {
            int more = 40 - LONG_LENGTHS[formula];
            edges.due(12 + more, Made.then(LONG, x -> nots(x, formula, more - 1)),
                    x -> x.not(more == 1 ? formula : 11 + more));
            edges.refused(Edges.STATE, Made.then(LONG, x -> nots(x, formula, more)), x -> x.not(12 + more));
        }
        Asker.Maker eightAndNine = Made.then(LONG, x -> x.not(2), x -> x.not(13));
        edges.due(15, eightAndNine, x -> x.join(true, 4, 13));
        edges.refused(Edges.STATE, eightAndNine, x -> x.join(true, 4, 14));
        Asker.Maker twenty = Made.then(LONG, x -> x.join(true, 3, 1), x -> x.not(13));
        edges.due(15, twenty, x -> x.join(true, 13, 13));
        edges.refused(Edges.STATE, twenty, x -> x.join(true, 14, 14));
        edges.due(15, twenty, x -> x.join(false, 14, 13));
        edges.refused(Edges.STATE, Made.then(twenty, x -> x.join(false, 14, 13)), x -> x.bind(true, 0, 15));
        edges.sentence("LENGTH: 39 times NOT is 40 long, and there are 40 FORMULAS then");
        Asker.Maker nots = Made.then(EMPTY, x -> x.same(0, 10), x -> nots(x, 0, 38));
        edges.due(39, nots, x -> x.not(38));
        edges.due(0, nots, x -> x.not(38), x -> x.answers(39));
        edges.due(1, nots, x -> x.answers(38));
    }

    /** Adds so many NOTs, the first of the FORMULA, each other one of the one before; the last one's number. */
    private static int nots(Thimble x, int formula, int many) {
        int last = formula;
        for (int k = 0; k < many; k++) {
            last = x.not(last);
        }
        return last;
    }

    private void formulas() {
        edges.sentence("13: Returns how many FORMULAS there are.");
        edges.asked(0, EMPTY, Thimble::formulas);
        edges.asked(NEXT, SMALL, Thimble::formulas);
        edges.asked(39, THIRTY_NINE, Thimble::formulas);
        edges.asked(40, FULL, Thimble::formulas);
        edges.sentence("numbered from 0: each call tells the number of the one that it adds");
        edges.due(0, EMPTY, x -> x.same(0, 0));
        edges.due(1, EMPTY, x -> x.same(0, 0), x -> x.not(0));
        edges.due(2, EMPTY, x -> x.same(0, 0), x -> x.not(0), x -> x.join(true, 0, 0));
        edges.due(3, EMPTY, x -> x.same(0, 0), x -> x.not(0), x -> x.join(true, 0, 0), x -> x.bind(true, 0, 0));
    }
}
