/**
 * Promises 14 to 18, and what 'Terms' says of domain, holding, bound, loose and safe:
 * a test for each sentence that names a boundary case.
 */
public final class FormulaAskedEdgeTests {
    private static final Asker.Maker EMPTY = Made.EMPTY;
    private static final Asker.Maker SMALL = Made.SMALL;
    private static final Asker.Maker FULL = Made.FULL;
    /** SMALL has so many FORMULAS. */
    private static final int NEXT = 16;
    private static final int[] NO_FORMULA_OF_SMALL = {-1, NEXT, 40, Edges.LEAST, Edges.MOST};
    /** FORMULAS of SMALL. */
    private static final int THREE_FREE = 10;
    private static final int FOUR_FREE = 9;
    private static final int HOLDING = 14;
    private static final int NOT_HOLDING = 15;

    /** RELATIONS of one, two and three PLACES without FACTS. */
    private static final Asker.Maker BARE =
            Made.then(EMPTY, x -> x.relation(1), x -> x.relation(2), x -> x.relation(3));
    /** The VALUES 0 to 7 are FACTS of the RELATION 0. */
    private static final Asker.Maker ALL_VALUES = Made.then(BARE, x -> {
        Made.fill(x, 0, 1, 8);
        return 0;
    });
    private static final Asker.Maker FEW = Made.then(BARE, x -> x.fact(2, 0, 0, 0), x -> x.fact(2, 0, 0, 7),
            x -> x.fact(2, 0, 7, 0), x -> x.fact(2, 7, 0, 0), x -> x.fact(2, 7, 0, 7), x -> x.fact(2, 7, 5, 3),
            x -> x.fact(1, 3, 3, 0), x -> x.fact(1, 3, 5, 0));

    private final Edges edges = new Edges();

    public static void main(String[] args) {
        FormulaAskedEdgeTests tests = new FormulaAskedEdgeTests();
        tests.ofFormulaRefused();
        tests.kindAndFree();
        tests.domain();
        tests.boundByAtomSameAndNot();
        tests.boundByBothAndEither();
        tests.boundBesideSame();
        tests.boundBySomeAndEvery();
        tests.isSafe();
        tests.loose();
        tests.answersRefused();
        tests.answersOfManyFree();
        tests.answersOfNoneFree();
        tests.atomHolds();
        tests.sameHolds();
        tests.notBothAndEitherHold();
        tests.someAndEveryHold();
        tests.emptyDomain();
        tests.domainOfTheWhole();
        tests.variableOutside();
        tests.answerRefused();
        tests.answerSeveralExceptions();
        tests.edges.end("FormulaAskedEdgeTests");
    }

    /** What ofFormula tells of the FORMULA that the call adds. */
    private void told(int want, Asker.Maker maker, Asker.Call adding, int what) {
        edges.due(want, maker, x -> x.ofFormula((int) adding.of(x), what));
    }

    private void boundUpAndDown(int up, int down, Asker.Call adding) {
        told(up, BARE, adding, 3);
        told(down, BARE, adding, 4);
    }

    private void ofFormulaRefused() {
        edges.sentence("14: Throws IndexOutOfBoundsException if there is no such FORMULA");
        for (int wrong : NO_FORMULA_OF_SMALL) {
            edges.refused(Edges.INDEX, SMALL, x -> x.ofFormula(wrong, 0));
            edges.refused(Edges.INDEX, SMALL, x -> x.ofFormula(wrong, 5));
        }
        edges.refused(Edges.INDEX, FULL, x -> x.ofFormula(40, 0));
        edges.asked(1, FULL, x -> x.ofFormula(39, 0));
        edges.sentence("14: Throws IllegalArgumentException if what is not 0 to 5");
        for (int wrong : new int[] {-1, 6, Edges.LEAST, Edges.MOST}) {
            edges.refused(Edges.ARGUMENT, SMALL, x -> x.ofFormula(0, wrong));
            edges.refused(Edges.ARGUMENT, SMALL, x -> x.ofFormula(NEXT - 1, wrong));
        }
        edges.sentence("14: If several exceptions apply: no such FORMULA, and what is not 0 to 5");
        edges.refused(Edges.INDEX, SMALL, x -> x.ofFormula(NEXT, 6));
        edges.refused(Edges.INDEX, EMPTY, x -> x.ofFormula(0, -1));
    }

    private void kindAndFree() {
        edges.sentence("14: 0 what it is, 0 to 6");
        told(0, BARE, x -> x.atom(0, 0, 0, 0), 0);
        told(1, BARE, x -> x.same(0, 0), 0);
        told(2, BARE, x -> x.not(x.same(0, 0)), 0);
        told(3, BARE, x -> x.join(true, x.same(0, 0), 0), 0);
        told(4, BARE, x -> x.join(false, x.same(0, 0), 0), 0);
        told(5, BARE, x -> x.bind(true, 0, x.same(0, 0)), 0);
        told(6, BARE, x -> x.bind(false, 0, x.same(0, 0)), 0);
        edges.sentence("14: 1 the set of its FREE VARIABLES: none");
        told(0, BARE, x -> x.atom(2, 10, 17, 12), 1);
        told(0, BARE, x -> x.same(10, 10), 1);
        told(0, BARE, x -> x.bind(true, 5, x.atom(0, 5, 0, 0)), 1);
        told(0, BARE, x -> x.bind(false, 0, x.same(0, 13)), 1);
        edges.sentence("14: 1 the set of its FREE VARIABLES: all");
        told(63, BARE, x -> x.join(true, x.atom(2, 0, 1, 2), x.atom(2, 3, 4, 5)), 1);
        told(63, BARE, x -> x.join(false, x.atom(2, 5, 4, 3), x.not(x.atom(2, 2, 1, 0))), 1);
        edges.sentence("14: 1 the set of its FREE VARIABLES: one");
        for (int k = 0; k <= 5; k++) {
            int v = k;
            told(1 << v, BARE, x -> x.atom(0, v, 0, 0), 1);
            told(1 << v, BARE, x -> x.same(v, v), 1);
        }
        edges.sentence("FREE: of SOME and EVERY those but v");
        for (int k = 0; k <= 5; k++) {
            int v = k;
            told(63 - (1 << v), BARE,
                    x -> x.bind(true, v, x.join(true, x.atom(2, 0, 1, 2), x.atom(2, 3, 4, 5))), 1);
            told(63 - (1 << v), BARE,
                    x -> x.bind(false, v, x.join(true, x.atom(2, 0, 1, 2), x.atom(2, 3, 4, 5))), 1);
        }
        edges.sentence("FREE: of SOME and EVERY those but v, also if v is not FREE in a");
        told(1, BARE, x -> x.bind(true, 1, x.atom(0, 0, 0, 0)), 1);
        told(1, BARE, x -> x.bind(false, 1, x.atom(0, 0, 0, 0)), 1);
        told(0, BARE, x -> x.bind(false, 0, x.bind(true, 0, x.atom(0, 0, 0, 0))), 1);
    }

    private void domain() {
        edges.sentence("14: 5 the set of VALUES in its DOMAIN: none");
        told(0, BARE, x -> x.atom(2, 0, 1, 2), 5);
        told(0, BARE, x -> x.same(3, 4), 5);
        told(0, Made.then(BARE, x -> x.fact(1, 3, 4, 0), x -> x.drop(1, 0)), x -> x.atom(1, 0, 1, 0), 5);
        edges.sentence("14: 5 the set of VALUES in its DOMAIN: all");
        told(255, ALL_VALUES, x -> x.same(0, 0), 5);
        edges.asked(255, FULL, x -> x.ofFormula(0, 5));
        edges.sentence("DOMAIN: the VALUES in all FACTS, also of a RELATION that is not in it");
        Asker.Maker others = Made.then(BARE, x -> x.fact(1, 0, 7, 5), x -> x.fact(2, 2, 2, 4));
        told(1 + 4 + 16 + 128, others, x -> x.atom(0, 0, 0, 0), 5);
        told(1 + 4 + 16 + 128, others, x -> x.same(0, 0), 5);
        edges.sentence("DOMAIN: and those named in it, and in what is named in it, and so on");
        told(64, BARE, x -> x.atom(2, 0, 1, 16), 5);
        told(1 + 128, BARE, x -> x.same(10, 17), 5);
        told(8, BARE, x -> x.not(x.not(x.same(0, 13))), 5);
        told(2 + 4, BARE, x -> x.join(true, x.same(0, 11), x.atom(0, 12, 0, 0)), 5);
        told(2 + 4, BARE, x -> x.join(false, x.not(x.same(0, 12)), x.same(11, 0)), 5);
        told(32, BARE, x -> x.bind(true, 0, x.bind(false, 1, x.same(0, 15))), 5);
        edges.sentence("DOMAIN: not those of a FORMULA that is not named in it");
        told(0, Made.then(BARE, x -> x.same(0, 13), x -> x.not(0)), x -> x.same(0, 0), 5);
        edges.due(2, BARE, x -> x.same(0, 11), x -> x.join(true, 0, x.same(0, 12)), x -> x.ofFormula(0, 5));
        edges.sentence("DOMAIN: as the FACTS are now");
        edges.due(0, BARE, x -> x.same(0, 0), x -> x.fact(0, 5, 0, 0), x -> x.drop(0, 0), x -> x.ofFormula(0, 5));
        edges.due(32, BARE, x -> x.same(0, 0), x -> x.fact(0, 5, 0, 0), x -> x.ofFormula(0, 5));
    }

    private void boundByAtomSameAndNot() {
        edges.sentence("BOUND UP and BOUND DOWN: of ATOM its VARIABLES, and none");
        boundUpAndDown(32 + 1, 0, x -> x.atom(2, 5, 13, 0));
        boundUpAndDown(0, 0, x -> x.atom(1, 13, 10, 0));
        edges.sentence("BOUND: of SAME, of a VARIABLE and a VALUE, that VARIABLE, and none");
        boundUpAndDown(1, 0, x -> x.same(0, 10));
        boundUpAndDown(32, 0, x -> x.same(17, 5));
        edges.sentence("BOUND: of two VARIABLES .. none, and none");
        boundUpAndDown(0, 0, x -> x.same(0, 1));
        boundUpAndDown(0, 0, x -> x.same(3, 3));
        edges.sentence("BOUND: .. or two VALUES: none, and none");
        boundUpAndDown(0, 0, x -> x.same(10, 17));
        boundUpAndDown(0, 0, x -> x.same(12, 12));
        edges.sentence("BOUND: of NOT what is BOUND DOWN, and BOUND UP in a");
        boundUpAndDown(0, 3, x -> x.not(x.atom(1, 0, 1, 0)));
        boundUpAndDown(3, 0, x -> x.not(x.not(x.atom(1, 0, 1, 0))));
        boundUpAndDown(0, 0, x -> x.not(x.same(0, 1)));
    }

    private void boundByBothAndEither() {
        edges.sentence("BOUND: of BOTH: UP those of a and of b");
        boundUpAndDown(1 + 2, 0, x -> x.join(true, x.atom(0, 0, 0, 0), x.atom(0, 1, 0, 0)));
        boundUpAndDown(1, 0, x -> x.join(true, x.atom(0, 0, 0, 0), x.not(x.atom(0, 1, 0, 0))));
        boundUpAndDown(2, 0, x -> x.join(true, x.not(x.atom(0, 0, 0, 0)), x.atom(0, 1, 0, 0)));
        edges.sentence("BOUND: of BOTH .. DOWN those of a that are also of b");
        boundUpAndDown(0, 2, x -> x.join(true, x.not(x.atom(1, 0, 1, 0)), x.not(x.atom(1, 1, 2, 0))));
        boundUpAndDown(0, 0, x -> x.join(true, x.not(x.atom(0, 0, 0, 0)), x.not(x.atom(0, 1, 0, 0))));
        boundUpAndDown(1, 0, x -> x.join(true, x.not(x.atom(0, 0, 0, 0)), x.atom(0, 0, 0, 0)));
        edges.sentence("BOUND: of EITHER UP those of a that are also of b");
        boundUpAndDown(2, 0, x -> x.join(false, x.atom(1, 0, 1, 0), x.atom(1, 1, 2, 0)));
        boundUpAndDown(0, 0, x -> x.join(false, x.atom(0, 0, 0, 0), x.atom(0, 1, 0, 0)));
        edges.sentence("BOUND: of EITHER .. DOWN those of a and of b");
        boundUpAndDown(0, 7, x -> x.join(false, x.not(x.atom(1, 0, 1, 0)), x.not(x.atom(1, 1, 2, 0))));
        boundUpAndDown(0, 1, x -> x.join(false, x.not(x.atom(0, 0, 0, 0)), x.atom(0, 1, 0, 0)));
        boundUpAndDown(0, 2, x -> x.join(false, x.atom(0, 0, 0, 0), x.not(x.atom(0, 1, 0, 0))));
    }

    private void boundBesideSame() {
        edges.sentence("BOUND: if one of both is SAME of two VARIABLES, of which one is BOUND so, the other one, too");
        for (int k = 0; k < 6; k++) {
            int v = k;
            int w = (k + 1) % 6;
            int both = (1 << v) + (1 << w);
            boundUpAndDown(both, 0, x -> x.join(true, x.same(v, w), x.atom(0, v, 0, 0)));
            boundUpAndDown(both, 0, x -> x.join(true, x.same(v, w), x.atom(0, w, 0, 0)));
            boundUpAndDown(both, 0, x -> x.join(true, x.atom(0, v, 0, 0), x.same(v, w)));
            boundUpAndDown(both, 0, x -> x.join(true, x.atom(0, w, 0, 0), x.same(v, w)));
        }
        boundUpAndDown(3, 0, x -> x.join(true, x.same(0, 1), x.same(0, 14)));
        boundUpAndDown(3, 0, x -> x.join(true, x.same(14, 1), x.same(0, 1)));
        boundUpAndDown(7, 0, x -> x.join(true, x.join(true, x.same(0, 1), x.atom(0, 0, 0, 0)), x.same(1, 2)));
        edges.sentence("BOUND: neither of the two VARIABLES of SAME is BOUND");
        boundUpAndDown(4, 0, x -> x.join(true, x.same(0, 1), x.atom(0, 2, 0, 0)));
        boundUpAndDown(0, 0, x -> x.join(true, x.same(0, 1), x.same(1, 2)));
        boundUpAndDown(0, 0, x -> x.join(true, x.same(0, 1), x.not(x.atom(0, 0, 0, 0))));
        boundUpAndDown(1, 0, x -> x.join(true, x.same(3, 3), x.atom(0, 0, 0, 0)));
        edges.sentence("BOUND: it is one of both, not within one");
        boundUpAndDown(1, 0, x -> x.join(true, x.not(x.not(x.same(0, 1))), x.atom(0, 0, 0, 0)));
        boundUpAndDown(1, 0, x -> x.join(true, x.join(true, x.same(0, 1), x.same(1, 2)), x.atom(0, 0, 0, 0)));
        boundUpAndDown(1, 0, x -> x.join(true, x.join(false, x.same(0, 1), x.same(0, 1)), x.atom(0, 0, 0, 0)));
        edges.sentence("BOUND: SAME of a VARIABLE and a VALUE, or of two VALUES, hands on nothing");
        boundUpAndDown(5, 0, x -> x.join(true, x.same(0, 12), x.atom(0, 2, 0, 0)));
        boundUpAndDown(1, 0, x -> x.join(true, x.same(11, 12), x.atom(0, 0, 0, 0)));
        edges.sentence("BOUND: beside SAME in EITHER, or within NOT of BOTH, nothing is handed on UP");
        boundUpAndDown(0, 0, x -> x.join(false, x.same(0, 1), x.atom(0, 0, 0, 0)));
        boundUpAndDown(0, 3, x -> x.not(x.join(true, x.same(0, 1), x.atom(0, 0, 0, 0))));
        boundUpAndDown(0, 1, x -> x.join(false, x.not(x.same(0, 1)), x.not(x.atom(0, 0, 0, 0))));
    }

    private void boundBySomeAndEvery() {
        edges.sentence("BOUND: of SOME UP those of a but v; DOWN none");
        boundUpAndDown(2, 0, x -> x.bind(true, 0, x.atom(1, 0, 1, 0)));
        boundUpAndDown(3, 0, x -> x.bind(true, 5, x.atom(1, 0, 1, 0)));
        boundUpAndDown(0, 0, x -> x.bind(true, 0, x.not(x.atom(1, 0, 1, 0))));
        for (int k = 0; k <= 5; k++) {
            int v = k;
            int other = (k + 1) % 6;
            boundUpAndDown(1 << other, 0, x -> x.bind(true, v, x.atom(1, v, other, 0)));
        }
        edges.sentence("BOUND: of EVERY UP none; DOWN those of a but v");
        boundUpAndDown(0, 0, x -> x.bind(false, 0, x.atom(1, 0, 1, 0)));
        boundUpAndDown(0, 2, x -> x.bind(false, 0, x.not(x.atom(1, 0, 1, 0))));
        boundUpAndDown(0, 3, x -> x.bind(false, 5, x.not(x.atom(1, 0, 1, 0))));
        for (int k = 0; k <= 5; k++) {
            int v = k;
            int other = (k + 1) % 6;
            boundUpAndDown(0, 1 << other, x -> x.bind(false, v, x.not(x.atom(1, v, other, 0))));
        }
    }

    private void safe(boolean want, Asker.Call adding) {
        edges.due(want, BARE, x -> x.isSafe((int) adding.of(x)));
    }

    private void isSafe() {
        edges.sentence("15: Throws IndexOutOfBoundsException if there is no such FORMULA");
        for (int wrong : NO_FORMULA_OF_SMALL) {
            edges.refused(Edges.INDEX, SMALL, x -> x.isSafe(wrong));
        }
        edges.refused(Edges.INDEX, FULL, x -> x.isSafe(40));
        edges.sentence("SAFE: and all that is FREE is BOUND UP");
        safe(true, x -> x.atom(2, 0, 1, 5));
        safe(false, x -> x.not(x.atom(0, 0, 0, 0)));
        safe(false, x -> x.same(0, 1));
        safe(false, x -> x.same(0, 0));
        safe(false, x -> x.join(true, x.atom(0, 0, 0, 0), x.same(1, 2)));
        safe(true, x -> x.join(true, x.atom(0, 0, 0, 0), x.same(0, 2)));
        safe(false, x -> x.join(false, x.atom(0, 0, 0, 0), x.atom(1, 0, 1, 0)));
        edges.sentence("SAFE: nothing is FREE");
        safe(true, x -> x.same(10, 11));
        safe(true, x -> x.not(x.atom(0, 10, 0, 0)));
        safe(true, x -> x.not(x.bind(true, 0, x.atom(0, 0, 0, 0))));
        edges.sentence("SAFE: if nothing in it is LOOSE (it itself, what is named in it, and so on)");
        safe(false, x -> x.bind(true, 1, x.atom(0, 0, 0, 0)));
        safe(false, x -> x.bind(false, 0, x.atom(0, 0, 0, 0)));
        safe(true, x -> x.bind(false, 0, x.not(x.atom(0, 0, 0, 0))));
        safe(false, x -> x.not(x.not(x.bind(true, 1, x.atom(0, 0, 0, 0)))));
        safe(false, x -> x.join(true, x.bind(false, 0, x.atom(0, 0, 0, 0)), x.atom(0, 0, 0, 0)));
        safe(false, x -> x.join(false, x.atom(0, 0, 0, 0), x.bind(true, 1, x.atom(0, 0, 0, 0))));
        safe(false, x -> x.bind(true, 0, x.bind(true, 1, x.atom(0, 0, 0, 0))));
    }

    private void loose() {
        edges.sentence("16: Throws IndexOutOfBoundsException if there is no such FORMULA");
        for (int wrong : NO_FORMULA_OF_SMALL) {
            edges.refused(Edges.INDEX, SMALL, x -> x.loose(wrong));
        }
        edges.refused(Edges.INDEX, FULL, x -> x.loose(40));
        edges.sentence("16: -1 if there is none.");
        edges.asked(-1, SMALL, x -> x.loose(0));
        edges.asked(-1, SMALL, x -> x.loose(HOLDING));
        edges.due(-1, BARE, x -> x.loose(x.not(x.atom(0, 0, 0, 0))));
        edges.due(-1, BARE, x -> x.loose(x.same(0, 1)));
        edges.sentence("16: the LOOSE one in it (itself, too)");
        edges.asked(7, SMALL, x -> x.loose(7));
        edges.due(1, BARE, x -> x.atom(0, 0, 0, 0), x -> x.bind(true, 1, 0), x -> x.loose(1));
        edges.due(-1, BARE, x -> x.atom(0, 0, 0, 0), x -> x.bind(true, 1, 0), x -> x.loose(0));
        edges.sentence("16: .. with the smallest number");
        Asker.Maker two = Made.then(BARE, x -> x.atom(0, 0, 0, 0), x -> x.bind(false, 0, 0), x -> x.bind(true, 4, 0));
        edges.due(1, two, x -> x.loose(x.join(true, 1, 2)));
        edges.due(1, two, x -> x.loose(x.join(false, 2, 1)));
        edges.due(2, two, x -> x.loose(x.join(false, 2, 0)));
        edges.due(2, two, x -> x.loose(x.join(true, 0, 2)));
        edges.due(2, two, x -> x.loose(x.bind(false, 3, 2)));
        edges.due(1, two, x -> x.loose(x.not(x.not(1))));
        edges.sentence("16: with the smallest number: 39 is the greatest that it can be");
        edges.asked(-1, FULL, x -> x.loose(39));
        Asker.Maker last = Made.then(BARE, x -> {
            x.atom(0, 0, 0, 0);
            for (int k = 1; k < 39; k++) {
                x.same(0, 0);
            }
            return x.bind(true, 1, 0);
        });
        edges.asked(39, last, x -> x.loose(39));
        edges.sentence("LOOSE: SOME, if v is not BOUND UP in a");
        for (int k = 0; k <= 5; k++) {
            int v = k;
            edges.due(-1, BARE, x -> x.atom(0, v, 0, 0), x -> x.bind(true, v, 0), x -> x.loose(1));
            edges.due(1, BARE, x -> x.same(v, v), x -> x.bind(true, v, 0), x -> x.loose(1));
        }
        edges.due(2, BARE, x -> x.atom(0, 0, 0, 0), x -> x.not(0), x -> x.bind(true, 0, 1), x -> x.loose(2));
        edges.sentence("LOOSE: EVERY, if v is not BOUND DOWN in a");
        for (int k = 0; k <= 5; k++) {
            int v = k;
            edges.due(1, BARE, x -> x.atom(0, v, 0, 0), x -> x.bind(false, v, 0), x -> x.loose(1));
            edges.due(-1, BARE, x -> x.atom(0, v, 0, 0), x -> x.not(0), x -> x.bind(false, v, 1), x -> x.loose(2));
        }
    }

    private void answersRefused() {
        edges.sentence("17: Throws IndexOutOfBoundsException if there is no such FORMULA");
        for (int wrong : NO_FORMULA_OF_SMALL) {
            edges.refused(Edges.INDEX, SMALL, x -> x.answers(wrong));
        }
        edges.refused(Edges.INDEX, FULL, x -> x.answers(40));
        edges.sentence("17: Throws IllegalStateException if more than 3 VARIABLES are FREE");
        edges.refused(Edges.STATE, SMALL, x -> x.answers(FOUR_FREE));
        edges.refused(Edges.STATE, FULL, x -> x.answers(4));
        edges.asked(16, SMALL, x -> x.answers(THREE_FREE));
        edges.asked(24, FULL, x -> x.answers(2));
        edges.due("throws.IllegalStateException", BARE,
                x -> x.join(true, x.atom(2, 0, 1, 2), x.atom(2, 3, 4, 5)), x -> x.answers(2));
        edges.due("throws.IllegalStateException", BARE,
                x -> x.join(false, x.atom(2, 0, 1, 2), x.atom(0, 3, 4, 5)), x -> x.answers(2));
        edges.sentence("17: a FORMULA, SAFE or not");
        edges.asked(2, SMALL, x -> x.answers(1));
        edges.asked(4, SMALL, x -> x.answers(5));
        edges.asked(2, SMALL, x -> x.answers(7));
    }

    /** SAME of a VARIABLE with itself HOLDS for each VALUE of the DOMAIN. */
    private static int all(Thimble x, int... variables) {
        int last = x.same(variables[0], variables[0]);
        for (int k = 1; k < variables.length; k++) {
            last = x.join(true, last, x.same(variables[k], variables[k]));
        }
        return last;
    }

    private void answersOfManyFree() {
        edges.sentence("17: Returns how many ANSWERS it has: all rows that there could be");
        int[][] choices = {{0, 1, 2}, {3, 4, 5}, {0, 2, 5}, {1, 3, 4}, {0, 1, 5}, {0, 1}, {2, 4}, {0}, {1}, {5}};
        for (int[] variables : choices) {
            int many = 1 << 3 * variables.length;
            edges.due(many, ALL_VALUES, x -> x.answers(all(x, variables)));
            edges.due(0, ALL_VALUES, x -> x.answers(x.not(all(x, variables))));
            for (int which = 0; which < variables.length; which++) {
                int column = which;
                edges.due(0, ALL_VALUES, x -> x.answer(all(x, variables), 0, column));
                edges.due(7, ALL_VALUES, x -> x.answer(all(x, variables), many - 1, column));
                edges.due(column == variables.length - 1 ? 1 : 0, ALL_VALUES,
                        x -> x.answer(all(x, variables), 1, column));
            }
            edges.due("throws.IndexOutOfBoundsException", ALL_VALUES, x -> x.answer(all(x, variables), many, 0));
        }
        edges.sentence("17: what is named in it may have more than 3 FREE VARIABLES");
        edges.due(512, ALL_VALUES,
                x -> x.answers(x.bind(true, 0, x.bind(false, 3, x.bind(true, 5, all(x, 0, 1, 2, 3, 4, 5))))));
        edges.due(0, ALL_VALUES, x -> x.answers(x.bind(true, 0, x.bind(false, 3, x.bind(true, 5,
                x.join(true, all(x, 0, 1, 2, 4, 5), x.same(3, 10)))))));
    }

    private void answersOfNoneFree() {
        edges.sentence("ANSWERS: (one, the empty row, or none, if none is FREE)");
        edges.asked(1, SMALL, x -> x.answers(HOLDING));
        edges.asked(0, SMALL, x -> x.answers(NOT_HOLDING));
        edges.due(1, BARE, x -> x.answers(x.same(13, 13)));
        edges.due(0, BARE, x -> x.answers(x.same(13, 14)));
        edges.due(0, BARE, x -> x.answers(x.atom(1, 13, 14, 0)));
        edges.due(1, BARE, x -> x.answers(x.not(x.atom(1, 13, 14, 0))));
        edges.due(1, SMALL, x -> x.answers(x.atom(Made.EDGE, 13, 14, 0)));
        edges.due(0, SMALL, x -> x.answers(x.atom(Made.EDGE, 14, 13, 0)));
        edges.due(1, ALL_VALUES, x -> x.answers(x.bind(false, 5, x.atom(0, 5, 0, 0))));
        edges.due(0, ALL_VALUES, x -> x.answers(x.bind(true, 1, x.not(x.atom(0, 1, 0, 0)))));
    }

    private static String rows(Thimble x, int formula) {
        StringBuilder all = new StringBuilder();
        for (int k = 0; k < x.answers(formula); k++) {
            all.append(k == 0 ? "" : " ");
            for (int i = 0; i < Integer.bitCount(x.ofFormula(formula, 1)); i++) {
                all.append(x.answer(formula, k, i));
            }
        }
        return all.toString();
    }

    private void answered(String want, Asker.Maker maker, Asker.Call adding) {
        edges.due(want, maker, x -> rows(x, (int) adding.of(x)));
    }

    private void atomHolds() {
        edges.sentence("HOLDS: ATOM, if the row is a FACT: a VARIABLE that is in it twice has one VALUE");
        for (int k = 0; k <= 5; k++) {
            int v = k;
            answered("0", FEW, x -> x.atom(2, v, v, v));
            answered("3", FEW, x -> x.atom(1, v, v, 0));
            for (int n = k + 1; n <= 5; n++) {
                int w = n;
                answered("00 07", FEW, x -> x.atom(2, v, v, w));
                answered("00 07 70", FEW, x -> x.atom(2, v, w, v));
                answered("00 07", FEW, x -> x.atom(2, w, v, v));
                answered("33 53", FEW, x -> x.atom(1, w, v, 0));
            }
        }
        edges.sentence("HOLDS: ATOM, if the row is a FACT: one that was taken away is none, and leaves nothing");
        Asker.Maker other = Made.then(BARE, x -> x.fact(2, 0, 0, 0), x -> x.drop(2, 0), x -> x.fact(2, 0, 1, 2));
        for (int k = 0; k < 5; k++) {
            int v = k;
            answered("", other, x -> x.atom(2, v, v, v + 1));
            answered("", other, x -> x.atom(2, v, v + 1, v));
            answered("", other, x -> x.atom(2, v + 1, v, v));
            answered("", Made.then(other, x -> x.drop(2, 0), x -> x.fact(2, 5, 5, 5)), x -> x.atom(2, 10, v, v));
            answered("12", other, x -> x.atom(2, 10, v, v + 1));
        }
    }

    private void sameHolds() {
        edges.sentence("HOLDS: SAME, if both are");
        for (int k = 0; k <= 5; k++) {
            int v = k;
            answered("0 3 5 7", FEW, x -> x.same(v, v));
            answered("0", FEW, x -> x.same(10, v));
            answered("7", FEW, x -> x.same(v, 17));
            for (int n = k + 1; n <= 5; n++) {
                int w = n;
                answered("00 33 55 77", FEW, x -> x.same(w, v));
            }
        }
    }

    private void notBothAndEitherHold() {
        edges.sentence("HOLDS: NOT, BOTH, EITHER (or both) as they say: no VARIABLE is FREE");
        int t = HOLDING;
        int f = NOT_HOLDING;
        edges.due(0, SMALL, x -> x.answers(x.not(t)));
        edges.due(1, SMALL, x -> x.answers(x.not(f)));
        edges.due(1, SMALL, x -> x.answers(x.join(true, t, t)));
        edges.due(0, SMALL, x -> x.answers(x.join(true, t, f)));
        edges.due(0, SMALL, x -> x.answers(x.join(true, f, t)));
        edges.due(0, SMALL, x -> x.answers(x.join(true, f, f)));
        edges.due(1, SMALL, x -> x.answers(x.join(false, t, t)));
        edges.due(1, SMALL, x -> x.answers(x.join(false, t, f)));
        edges.due(1, SMALL, x -> x.answers(x.join(false, f, t)));
        edges.due(0, SMALL, x -> x.answers(x.join(false, f, f)));
        edges.sentence("HOLDS: NOT, BOTH, EITHER (or both) as they say: one or two VARIABLES are FREE");
        Asker.Maker two = Made.then(EMPTY, x -> x.relation(1), x -> x.relation(1), x -> x.fact(0, 0, 0, 0),
                x -> x.fact(0, 3, 0, 0), x -> x.fact(1, 3, 0, 0), x -> x.fact(1, 5, 0, 0));
        Asker.Maker zero = Made.then(EMPTY, x -> x.relation(1), x -> x.relation(1), x -> x.relation(2),
                x -> x.fact(0, 0, 0, 0), x -> x.fact(2, 0, 0, 0));
        for (int k = 0; k <= 5; k++) {
            int v = k;
            answered("5", two, x -> x.not(x.atom(0, v, 0, 0)));
            answered("3", two, x -> x.join(true, x.atom(0, v, 0, 0), x.atom(1, v, 0, 0)));
            answered("0 3 5", two, x -> x.join(false, x.atom(0, v, 0, 0), x.atom(1, v, 0, 0)));
            for (int n = k + 1; n <= 5; n++) {
                int w = n;
                answered("03 05 33 35", two, x -> x.join(true, x.atom(0, v, 0, 0), x.atom(1, w, 0, 0)));
                answered("00 03 05 30 33 35 53 55", two,
                        x -> x.join(false, x.atom(0, v, 0, 0), x.atom(1, w, 0, 0)));
                answered("", zero, x -> x.join(true, x.atom(0, v, 0, 0), x.atom(1, w, 0, 0)));
                answered("00", zero, x -> x.join(false, x.atom(0, v, 0, 0), x.atom(1, w, 0, 0)));
                answered("00", zero, x -> x.join(false, x.atom(1, v, 0, 0), x.atom(0, w, 0, 0)));
                answered("", zero, x -> x.join(true, x.atom(2, v, w, 0), x.atom(1, v, 0, 0)));
                answered("", zero, x -> x.join(true, x.atom(2, v, w, 0), x.not(x.atom(2, v, w, 0))));
                answered("00", zero, x -> x.join(false, x.not(x.atom(2, v, w, 0)), x.atom(2, v, w, 0)));
            }
        }
    }

    private void someAndEveryHold() {
        for (int k = 0; k < 6 * 8; k++) {
            int v = k / 8;
            int value = k % 8;
            int other = (v + 1) % 6;
            edges.sentence("SOME v a: if a HOLDS with some VALUE: with one alone");
            answered("2", Made.then(ALL_VALUES, x -> x.fact(1, 2, value, 0)),
                    x -> x.bind(true, v, x.atom(1, other, v, 0)));
            edges.sentence("EVERY, with each: with all but one is not enough");
            Asker.Maker allButOne = Made.then(ALL_VALUES, x -> {
                for (int w = 0; w < 8; w++) {
                    x.fact(1, 5, w, 0);
                    x.fact(1, 2, w == value ? (w + 1) % 8 : w, 0);
                }
                return 0;
            });
            answered("5", allButOne, x -> x.bind(false, v, x.atom(1, other, v, 0)));
            answered("0 1 2 3 4 6 7", allButOne, x -> x.bind(true, v, x.not(x.atom(1, other, v, 0))));
        }
        edges.sentence("EVERY, with each: the last VALUE counts, too");
        Asker.Maker lastLeftOut = Made.then(ALL_VALUES, x -> {
            for (int w = 0; w < 7; w++) {
                x.fact(2, 0, 0, w);
            }
            return 0;
        });
        for (int k = 0; k <= 5; k++) {
            int v = k;
            int a = (v + 4) % 6;
            int b = (v + 5) % 6;
            answered("", lastLeftOut, x -> x.bind(false, v, x.atom(2, a, b, v)));
            answered("00", Made.then(lastLeftOut, x -> x.fact(2, 0, 0, 7)), x -> x.bind(false, v, x.atom(2, a, b, v)));
        }
    }

    private void emptyDomain() {
        for (int k = 0; k <= 5; k++) {
            int v = k;
            edges.sentence("SOME v a: if a HOLDS with some VALUE of the DOMAIN for v: an empty DOMAIN has none");
            edges.due(0, BARE, x -> x.answers(x.bind(true, v, x.same(v, v))));
            edges.due(1, BARE, x -> x.answers(x.not(x.bind(true, v, x.same(v, v)))));
            edges.due(0, EMPTY, x -> x.answers(x.bind(true, v, x.not(x.bind(true, v, x.same(v, v))))));
            edges.due(0, EMPTY, x -> x.answers(x.bind(true, v, x.bind(false, v, x.same(v, v)))));
            edges.sentence("EVERY, with each: an empty DOMAIN has none with which it does not HOLD");
            edges.due(1, BARE, x -> x.answers(x.bind(false, v, x.not(x.same(v, v)))));
            edges.due(0, BARE, x -> x.answers(x.not(x.bind(false, v, x.not(x.same(v, v))))));
            edges.due(1, EMPTY, x -> x.answers(x.bind(false, v, x.bind(true, v, x.same(v, v)))));
        }
        edges.sentence("an empty DOMAIN: there are no rows of its VALUES, if some VARIABLE is FREE");
        for (int k = 0; k <= 5; k++) {
            int v = k;
            edges.due(0, BARE, x -> x.answers(x.same(v, v)));
            edges.due(0, BARE, x -> x.answers(x.not(x.atom(0, v, 0, 0))));
            edges.due(0, BARE, x -> x.answers(x.bind(false, (v + 1) % 6, x.same(v, (v + 1) % 6))));
        }
        edges.due(0, EMPTY, x -> x.answers(all(x, 0, 1, 2)));
        edges.sentence("an empty DOMAIN: one VALUE that is named is enough");
        for (int k = 0; k <= 7; k++) {
            int value = k;
            edges.due(value, EMPTY, x -> x.answer(x.same(0, 10 + value), 0, 0));
            edges.due(1, EMPTY, x -> x.answers(x.bind(true, 3, x.same(3, 10 + value))));
            edges.due(1, EMPTY, x -> x.answers(x.bind(false, 1, x.same(1, 10 + value))));
        }
    }

    private void domainOfTheWhole() {
        edges.sentence("HOLDS: (of the whole FORMULA that is asked for, also in what is named in it)");
        for (int k = 0; k <= 5; k++) {
            int v = k;
            Asker.Maker one = Made.then(BARE, x -> x.fact(0, 1, 0, 0), x -> x.atom(0, v, 0, 0),
                    x -> x.bind(false, v, 0), x -> x.same(12, 12), x -> x.join(true, 1, 2),
                    x -> x.not(0), x -> x.bind(true, v, 4), x -> x.join(true, 2, 5));
            edges.asked(1, one, x -> x.answers(1));
            edges.asked(0, one, x -> x.answers(3));
            edges.asked(0, one, x -> x.answers(5));
            edges.asked(1, one, x -> x.answers(6));
            edges.due(1, one, x -> x.answers(x.not(3)));
            edges.due(0, one, x -> x.answers(x.join(false, 1, x.not(2))));
        }
        edges.sentence("ANSWERS: all rows of VALUES of the DOMAIN, not of others");
        Asker.Maker few = Made.then(BARE, x -> x.fact(0, 2, 0, 0), x -> x.fact(1, 5, 2, 0));
        edges.due(1, few, x -> x.answers(x.not(x.atom(0, 0, 0, 0))));
        edges.due(5, few, x -> x.answer(x.not(x.atom(0, 0, 0, 0)), 0, 0));
        edges.due(3, few, x -> x.answers(x.not(x.atom(1, 4, 3, 0))));
        edges.due(1, few, x -> x.answers(x.bind(false, 0, x.not(x.atom(1, 0, 1, 0)))));
        edges.due(5, few, x -> x.answer(x.bind(false, 0, x.not(x.atom(1, 0, 1, 0))), 0, 0));
        edges.due(8, few, x -> x.answers(all(x, 1, 2, 3)));
    }

    private void variableOutside() {
        edges.sentence("SOME v a: (whatever v is outside of it)");
        for (int k = 0; k <= 5; k++) {
            int v = k;
            int other = (k + 1) % 6;
            Asker.Maker beside = Made.then(SMALL, x -> x.atom(Made.MARK, v, 0, 0), x -> x.bind(true, v, NEXT),
                    x -> x.atom(Made.EDGE, v, other, 0), x -> x.join(true, NEXT + 1, NEXT + 2),
                    x -> x.join(true, NEXT + 2, NEXT + 1), x -> x.join(true, NEXT, NEXT + 2));
            String all = v < other ? "12 23 31 34" : "13 21 32 43";
            answered(all, beside, x -> NEXT + 3);
            answered(all, beside, x -> NEXT + 4);
            answered(v < other ? "23" : "32", beside, x -> NEXT + 5);
            edges.asked((1 << v) + (1 << other), beside, x -> x.ofFormula(NEXT + 3, 1));
        }
        edges.sentence("EVERY, with each: whatever v is outside of it");
        for (int k = 0; k <= 5; k++) {
            int v = k;
            Asker.Maker beside = Made.then(ALL_VALUES, x -> x.atom(0, v, 0, 0), x -> x.bind(false, v, 0),
                    x -> x.same(v, 13), x -> x.join(true, 1, 2), x -> x.join(true, 2, 1));
            edges.asked(1, beside, x -> x.answers(3));
            edges.asked(3, beside, x -> x.answer(4, 0, 0));
        }
    }

    private void answerRefused() {
        edges.sentence("18: Throws IndexOutOfBoundsException if there is no such FORMULA");
        for (int wrong : NO_FORMULA_OF_SMALL) {
            edges.refused(Edges.INDEX, SMALL, x -> x.answer(wrong, 0, 0));
        }
        edges.refused(Edges.INDEX, FULL, x -> x.answer(40, 0, 0));
        edges.sentence("18: .. or, if no more than 3 VARIABLES are FREE, no such ANSWER");
        for (int wrong : new int[] {-1, Edges.LEAST, Edges.MOST}) {
            edges.refused(Edges.INDEX, SMALL, x -> x.answer(0, wrong, 0));
            edges.refused(Edges.INDEX, SMALL, x -> x.answer(THREE_FREE, wrong, 0));
            edges.refused(Edges.INDEX, SMALL, x -> x.answer(HOLDING, wrong, 0));
        }
        edges.refused(Edges.INDEX, SMALL, x -> x.answer(0, 4, 0));
        edges.refused(Edges.INDEX, SMALL, x -> x.answer(THREE_FREE, 16, 0));
        edges.refused(Edges.INDEX, SMALL, x -> x.answer(7, 2, 0));
        edges.refused(Edges.INDEX, SMALL, x -> x.answer(13, 2, 0));
        edges.refused(Edges.INDEX, SMALL, x -> x.answer(HOLDING, 1, 0));
        edges.refused(Edges.INDEX, SMALL, x -> x.answer(NOT_HOLDING, 0, 0));
        edges.asked(4, SMALL, x -> x.answer(0, 3, 1));
        edges.asked(4, SMALL, x -> x.answer(THREE_FREE, 15, 2));
        edges.sentence("18: Throws IllegalStateException if more than 3 VARIABLES are FREE");
        edges.refused(Edges.STATE, SMALL, x -> x.answer(FOUR_FREE, 0, 0));
        edges.refused(Edges.STATE, FULL, x -> x.answer(4, 0, 3));
        edges.sentence("18: Throws IllegalArgumentException if which is less than 0");
        for (int wrong : new int[] {-1, Edges.LEAST}) {
            edges.refused(Edges.ARGUMENT, SMALL, x -> x.answer(0, 0, wrong));
            edges.refused(Edges.ARGUMENT, SMALL, x -> x.answer(HOLDING, 0, wrong));
        }
        edges.sentence("18: .. or not so many are FREE");
        edges.refused(Edges.ARGUMENT, SMALL, x -> x.answer(0, 0, 2));
        edges.refused(Edges.ARGUMENT, SMALL, x -> x.answer(0, 3, Edges.MOST));
        edges.refused(Edges.ARGUMENT, SMALL, x -> x.answer(3, 0, 1));
        edges.refused(Edges.ARGUMENT, SMALL, x -> x.answer(THREE_FREE, 0, 3));
        edges.refused(Edges.ARGUMENT, SMALL, x -> x.answer(HOLDING, 0, 0));
        edges.refused(Edges.ARGUMENT, SMALL, x -> x.answer(8, 0, 2));
        edges.asked(3, SMALL, x -> x.answer(8, 1, 1));
    }

    private void answerSeveralExceptions() {
        edges.sentence("18: If several exceptions apply: no such FORMULA, and which is less than 0");
        edges.refused(Edges.INDEX, SMALL, x -> x.answer(NEXT, -1, -1));
        edges.sentence("18: If several exceptions apply: more than 3 are FREE, and no such place");
        edges.refused(Edges.STATE, SMALL, x -> x.answer(FOUR_FREE, -1, 0));
        edges.refused(Edges.STATE, SMALL, x -> x.answer(FOUR_FREE, Edges.MOST, 0));
        edges.sentence("18: If several exceptions apply: more than 3 are FREE, and which is wrong");
        edges.refused(Edges.STATE, SMALL, x -> x.answer(FOUR_FREE, 0, -1));
        edges.refused(Edges.STATE, SMALL, x -> x.answer(FOUR_FREE, 0, 4));
        edges.refused(Edges.STATE, SMALL, x -> x.answer(FOUR_FREE, -1, -1));
        edges.sentence("18: If several exceptions apply: no such ANSWER, and which is wrong");
        edges.refused(Edges.INDEX, SMALL, x -> x.answer(0, 4, -1));
        edges.refused(Edges.INDEX, SMALL, x -> x.answer(0, -1, 2));
        edges.refused(Edges.INDEX, SMALL, x -> x.answer(NOT_HOLDING, 0, 0));
        edges.refused(Edges.INDEX, SMALL, x -> x.answer(HOLDING, 1, -1));
    }
}
