import java.math.BigInteger;

/** Promises 30 to 32: a test for each sentence that names a boundary case. */
public final class WouldBeEdgeTests {
    private static final Asker.Maker EMPTY = Made.EMPTY;
    private static final Asker.Maker SMALL = Made.SMALL;
    private static final Asker.Maker FULL = Made.FULL;
    private static final int[] NO_FORMULA_OF_SMALL = {-1, 16, 40, Edges.LEAST, Edges.MOST};
    private static final int[] NO_VALUE = {-1, 8, 10, 17, Edges.LEAST, Edges.MOST};
    /** FORMULAS of SMALL. */
    private static final int EDGES = 0;
    private static final int THREE_FREE = 10;
    private static final int FOUR_FREE = 9;
    private static final int TRIPLES = 13;
    private static final int HOLDING = 14;
    private static final int NOT_HOLDING = 15;

    /** RELATIONS of one, two and three PLACES without FACTS. */
    private static final Asker.Maker BARE =
            Made.then(EMPTY, x -> x.relation(1), x -> x.relation(2), x -> x.relation(3));

    private final Edges edges = new Edges();

    public static void main(String[] args) {
        WouldBeEdgeTests tests = new WouldBeEdgeTests();
        tests.answersWithRefused();
        tests.answersWithSeveralExceptions();
        tests.answersWithNotLookedAt();
        tests.answersWithOneMoreOrLess();
        tests.answersWithAMoreThan24();
        tests.answersWithAnotherDomain();
        tests.shareRefused();
        tests.shareOfNone();
        tests.shareNotCut();
        tests.digestStart();
        tests.digestWrapsAround();
        tests.digestLeavesOut();
        tests.digestOfAll();
        tests.edges.end("WouldBeEdgeTests");
    }

    private void answersWithRefused() {
        edges.sentence("30: Throws IndexOutOfBoundsException if there is no such FORMULA");
        for (int wrong : NO_FORMULA_OF_SMALL) {
            edges.refused(Edges.INDEX, SMALL, x -> x.answersWith(wrong, 0, 0, 0, 0));
        }
        edges.refused(Edges.INDEX, FULL, x -> x.answersWith(40, 0, 0, 0, 0));
        edges.sentence("30: .. or RELATION");
        for (int wrong : new int[] {-1, 3, 6, Edges.LEAST, Edges.MOST}) {
            edges.refused(Edges.INDEX, SMALL, x -> x.answersWith(0, wrong, 0, 0, 0));
        }
        edges.refused(Edges.INDEX, FULL, x -> x.answersWith(0, 6, 0, 0, 0));
        edges.refused(Edges.INDEX, Made.then(EMPTY, x -> x.same(0, 0)), x -> x.answersWith(0, 0, 0, 0, 0));
        edges.sentence("30: Throws IllegalArgumentException if one that is looked at is not 0 to 7");
        for (int wrong : NO_VALUE) {
            for (int r = 0; r < 3; r++) {
                int relation = r;
                edges.refused(Edges.ARGUMENT, SMALL, x -> x.answersWith(0, relation, wrong, 0, 0));
            }
            edges.refused(Edges.ARGUMENT, SMALL, x -> x.answersWith(0, Made.EDGE, 0, wrong, 0));
            edges.refused(Edges.ARGUMENT, SMALL, x -> x.answersWith(0, Made.TRIPLE, 0, wrong, 0));
            edges.refused(Edges.ARGUMENT, SMALL, x -> x.answersWith(0, Made.TRIPLE, 0, 0, wrong));
        }
        edges.sentence("30: Throws IllegalStateException if more than 3 VARIABLES are FREE");
        edges.refused(Edges.STATE, SMALL, x -> x.answersWith(FOUR_FREE, Made.EDGE, 1, 2, 0));
        edges.refused(Edges.STATE, SMALL, x -> x.answersWith(FOUR_FREE, Made.EDGE, 7, 7, 0));
        edges.refused(Edges.STATE, FULL, x -> x.answersWith(4, 3, 0, 0, 0));
        edges.asked(20, SMALL, x -> x.answersWith(THREE_FREE, Made.EDGE, 2, 1, 0));
        edges.asked(9, SMALL, x -> x.answersWith(THREE_FREE, Made.EDGE, 1, 2, 0));
    }

    private void answersWithSeveralExceptions() {
        edges.sentence("30: If several exceptions apply: no such FORMULA or RELATION, and no VALUE");
        edges.refused(Edges.INDEX, SMALL, x -> x.answersWith(16, 0, 8, 0, 0));
        edges.refused(Edges.INDEX, SMALL, x -> x.answersWith(0, 3, 8, 8, 8));
        edges.refused(Edges.INDEX, SMALL, x -> x.answersWith(-1, -1, -1, -1, -1));
        edges.sentence("30: If several exceptions apply: no such RELATION, and more than 3 are FREE");
        edges.refused(Edges.INDEX, SMALL, x -> x.answersWith(FOUR_FREE, 3, 0, 0, 0));
        edges.sentence("30: If several exceptions apply: no VALUE, and more than 3 are FREE");
        edges.refused(Edges.ARGUMENT, SMALL, x -> x.answersWith(FOUR_FREE, Made.EDGE, 8, 0, 0));
        edges.refused(Edges.ARGUMENT, SMALL, x -> x.answersWith(FOUR_FREE, Made.EDGE, 0, -1, 0));
        edges.refused(Edges.ARGUMENT, SMALL, x -> x.answersWith(FOUR_FREE, Made.TRIPLE, 0, 0, 8));
    }

    private void answersWithNotLookedAt() {
        edges.sentence("30: b: not looked at, if it has no such PLACE");
        for (int wild : new int[] {-1, 0, 4, 8, 99, Edges.LEAST, Edges.MOST}) {
            edges.asked(3, SMALL, x -> x.answersWith(1, Made.MARK, 1, wild, 0));
            edges.asked(1, SMALL, x -> x.answersWith(1, Made.MARK, 4, wild, 0));
        }
        edges.sentence("30: so the third one");
        for (int wild : new int[] {-1, 0, 4, 8, 99, Edges.LEAST, Edges.MOST}) {
            edges.asked(1, SMALL, x -> x.answersWith(1, Made.MARK, 2, 0, wild));
            edges.asked(5, SMALL, x -> x.answersWith(EDGES, Made.EDGE, 2, 1, wild));
            edges.asked(3, SMALL, x -> x.answersWith(EDGES, Made.EDGE, 3, 4, wild));
            edges.refused(Edges.STATE, SMALL, x -> x.answersWith(FOUR_FREE, Made.EDGE, 0, 0, wild));
        }
    }

    private void answersWithOneMoreOrLess() {
        edges.sentence("30: if that was a FACT, if it is none");
        edges.asked(5, SMALL, x -> x.answersWith(EDGES, Made.EDGE, 0, 0, 0));
        edges.asked(5, SMALL, x -> x.answersWith(EDGES, Made.EDGE, 7, 7, 0));
        edges.asked(3, SMALL, x -> x.answersWith(TRIPLES, Made.TRIPLE, 1, 1, 4));
        edges.sentence("30: .. or was none, if it is one");
        for (int k = 0; k < 4; k++) {
            int place = k;
            edges.asked(3, SMALL, x -> x.answersWith(EDGES, Made.EDGE,
                    x.factAt(Made.EDGE, place, 0), x.factAt(Made.EDGE, place, 1), 0));
        }
        edges.asked(1, SMALL, x -> x.answersWith(TRIPLES, Made.TRIPLE, 1, 1, 3));
        edges.asked(0, Made.then(SMALL, x -> x.drop(Made.MARK, 0)), x -> x.answersWith(1, Made.MARK, 4, 0, 0));
        edges.sentence("30: no VARIABLE is FREE: 1 or 0");
        edges.asked(1, SMALL, x -> x.answersWith(HOLDING, Made.EDGE, 1, 2, 0));
        edges.asked(0, SMALL, x -> x.answersWith(NOT_HOLDING, Made.EDGE, 1, 2, 0));
        Asker.Maker one = Made.then(SMALL, x -> x.drop(Made.MARK, 0));
        edges.asked(0, one, x -> x.answersWith(HOLDING, Made.MARK, 4, 0, 0));
        edges.asked(1, one, x -> x.answersWith(NOT_HOLDING, Made.MARK, 4, 0, 0));
        edges.sentence("what would be (nothing is changed): the calls that come next tell what is");
        edges.due(4, SMALL, x -> x.answersWith(EDGES, Made.EDGE, 7, 7, 0), x -> x.answers(EDGES));
        edges.due(5, SMALL, x -> x.answersWith(EDGES, Made.EDGE, 7, 7, 0),
                x -> x.answersWith(EDGES, Made.EDGE, 7, 6, 0));
        edges.due(3, SMALL, x -> x.answersWith(EDGES, Made.EDGE, 1, 2, 0), x -> x.drop(Made.EDGE, 0));
    }

    private void answersWithAMoreThan24() {
        edges.sentence("30: (that there are at most 24 is not looked at)");
        edges.asked(25, FULL, x -> x.answersWith(1, 1, 3, 0, 0));
        edges.asked(25, FULL, x -> x.answersWith(1, 1, 7, 7, 0));
        edges.asked(25, FULL, x -> x.answersWith(2, 2, 0, 3, 0));
        edges.asked(25, FULL, x -> x.answersWith(2, 2, 7, 7, 7));
        Asker.Maker first = Made.then(FULL, x -> x.drop(1, 0), x -> x.fact(1, 7, 7, 0));
        edges.asked(25, first, x -> x.answersWith(1, 1, 0, 0, 0));
        edges.asked(25, Made.then(FULL, x -> x.drop(1, 9), x -> x.fact(1, 7, 7, 0)),
                x -> x.answersWith(1, 1, 1, 1, 0));
        edges.sentence("30: one of 24 was none");
        edges.asked(23, FULL, x -> x.answersWith(1, 1, 0, 0, 0));
        edges.asked(23, FULL, x -> x.answersWith(1, 1, 1, 3, 0));
        edges.asked(23, FULL, x -> x.answersWith(1, 1, 2, 7, 0));
        edges.asked(7, FULL, x -> x.answersWith(0, 0, 7, 0, 0));
        edges.sentence("30: a 25th is not kept: there are 24 then");
        edges.due(24, FULL, x -> x.answersWith(1, 1, 7, 7, 0), x -> x.facts(1));
        edges.due("throws.IllegalStateException", FULL, x -> x.answersWith(1, 1, 7, 7, 0), x -> x.fact(1, 7, 7, 0));
    }

    private void answersWithAnotherDomain() {
        edges.sentence("30: how many ANSWERS there would be: the DOMAIN is what it would be, too");
        Asker.Maker noEdge = Made.then(SMALL, x -> x.not(EDGES));
        edges.asked(4 * 4 - 4, noEdge, x -> x.answersWith(16, Made.MARK, 1, 0, 0));
        edges.asked(5 * 5 - 4, noEdge, x -> x.answersWith(16, Made.MARK, 0, 0, 0));
        edges.asked(5 * 5 - 5, noEdge, x -> x.answersWith(16, Made.EDGE, 7, 7, 0));
        Asker.Maker fewer = Made.then(SMALL, x -> x.drop(Made.MARK, 1), x -> x.not(EDGES));
        edges.asked(3 * 3 - 3, fewer, x -> x.answersWith(16, Made.EDGE, 3, 4, 0));
        edges.sentence("30: from an empty DOMAIN, and to one");
        Asker.Maker none = Made.then(BARE, x -> x.same(0, 0), x -> x.bind(true, 0, 0), x -> x.not(1),
                x -> x.bind(false, 1, x.same(1, 12)));
        edges.asked(1, none, x -> x.answersWith(0, 0, 5, 0, 0));
        edges.asked(2, none, x -> x.answersWith(0, 1, 5, 6, 0));
        edges.asked(1, none, x -> x.answersWith(1, 0, 5, 0, 0));
        edges.asked(0, none, x -> x.answersWith(2, 0, 5, 0, 0));
        edges.asked(0, none, x -> x.answersWith(4, 0, 5, 0, 0));
        edges.asked(1, none, x -> x.answersWith(4, 0, 2, 0, 0));
        Asker.Maker one = Made.then(none, x -> x.fact(0, 5, 0, 0));
        edges.asked(0, one, x -> x.answersWith(0, 0, 5, 0, 0));
        edges.asked(0, one, x -> x.answersWith(1, 0, 5, 0, 0));
        edges.asked(1, one, x -> x.answersWith(2, 0, 5, 0, 0));
        edges.asked(1, one, x -> x.answersWith(4, 0, 5, 0, 0));
    }

    private void shareRefused() {
        edges.sentence("31: Throws IndexOutOfBoundsException if there is no such FORMULA");
        for (int wrong : NO_FORMULA_OF_SMALL) {
            edges.refused(Edges.INDEX, SMALL, x -> x.share(wrong));
        }
        edges.refused(Edges.INDEX, FULL, x -> x.share(40));
        edges.sentence("31: Throws IllegalStateException if more than 3 VARIABLES are FREE");
        edges.refused(Edges.STATE, SMALL, x -> x.share(FOUR_FREE));
        edges.refused(Edges.STATE, FULL, x -> x.share(4));
        edges.refused(Edges.STATE, Made.then(BARE, x -> x.atom(2, 0, 1, 2), x -> x.atom(0, 3, 0, 0),
                x -> x.join(true, 0, 1)), x -> x.share(2));
        edges.asked(16.0 / 64.0, SMALL, x -> x.share(THREE_FREE));
    }

    private void shareOfNone() {
        edges.sentence("31: (.. 1, if none is)");
        edges.asked(1.0, SMALL, x -> x.share(HOLDING));
        edges.asked(0.0, SMALL, x -> x.share(NOT_HOLDING));
        edges.sentence("31: (.. 1, if none is): also with an empty DOMAIN");
        Asker.Maker none = Made.then(BARE, x -> x.same(0, 0), x -> x.bind(true, 0, 0), x -> x.bind(false, 0, 0));
        edges.asked(0.0, none, x -> x.share(1));
        edges.asked(1.0, none, x -> x.share(2));
        edges.sentence("31: 0 if there could be none.");
        edges.asked(0.0, none, x -> x.share(0));
        edges.due(0.0, none, x -> x.share(x.not(0)));
        edges.due(0.0, none, x -> x.share(x.atom(1, 4, 5, 0)));
        edges.due(0.0, none, x -> x.share(x.atom(2, 3, 4, 5)));
    }

    private void shareNotCut() {
        edges.sentence("31: its ANSWERS, of all rows that there could be .. not cut");
        Asker.Maker three = Made.then(BARE, x -> x.fact(0, 0, 0, 0), x -> x.fact(1, 1, 2, 0));
        edges.due(1.0 / 3.0, three, x -> x.share(x.atom(0, 5, 0, 0)));
        edges.due(2.0 / 3.0, three, x -> x.share(x.not(x.atom(0, 5, 0, 0))));
        edges.due(1.0 / 9.0, three, x -> x.share(x.atom(1, 0, 1, 0)));
        edges.due(8.0 / 9.0, three, x -> x.share(x.not(x.atom(1, 3, 2, 0))));
        edges.due(26.0 / 27.0, three,
                x -> x.share(x.not(x.join(true, x.atom(1, 3, 2, 0), x.atom(0, 0, 0, 0)))));
        edges.due(0.0, three, x -> x.share(x.atom(2, 0, 1, 2)));
        edges.sentence("31: all rows, and one of as many as there can be");
        edges.due(1.0, FULL, x -> x.share(0));
        edges.due(24.0 / 512.0, FULL, x -> x.share(2));
        Asker.Maker all = Made.then(BARE, x -> {
            Made.fill(x, 0, 1, 8);
            return x.fact(2, 7, 7, 7);
        });
        edges.due(1.0 / 512.0, all, x -> x.share(x.atom(2, 0, 1, 2)));
        edges.due(511.0 / 512.0, all, x -> x.share(x.not(x.atom(2, 5, 4, 3))));
        edges.due(1.0, all, x -> x.share(x.not(x.atom(1, 5, 4, 3))));
    }

    private static String digestOf(long... numbers) {
        BigInteger d = BigInteger.valueOf(58081);
        for (long n : numbers) {
            d = d.multiply(BigInteger.valueOf(31)).add(BigInteger.valueOf(n));
        }
        return Long.toString(d.longValue());
    }

    private void digestStart() {
        edges.sentence("32: A number d starts with 58081");
        edges.asked(digestOf(0, 0, 0), EMPTY, Thimble::digest);
        edges.sentence("32: for each RELATION facts(), and all VALUES of its FACTS");
        edges.asked(digestOf(3, 0, 0, 0, 0, 0), BARE, Thimble::digest);
        edges.asked(digestOf(3, 1, 7, 0, 1, 1, 2, 3, 0, 0),
                Made.then(BARE, x -> x.fact(0, 7, 0, 0), x -> x.fact(2, 1, 2, 3)), Thimble::digest);
    }

    private void digestWrapsAround() {
        edges.sentence("32: d * 31 + x, which wraps around as a 64-bit integer");
        Asker.Maker many = Made.then(BARE, x -> {
            Made.fill(x, 0, 1, 8);
            return 0;
        });
        edges.asked(digestOf(3, 8, 0, 1, 2, 3, 4, 5, 6, 7, 0, 0, 0, 0), many, Thimble::digest);
        edges.asked(digestOf(3, 8, 0, 1, 2, 3, 4, 5, 6, 7, 0, 3, 5, 5, 5, 6, 6, 6, 7, 7, 7, 0, 0),
                Made.then(many, x -> x.fact(2, 7, 7, 7), x -> x.fact(2, 5, 5, 5), x -> x.fact(2, 6, 6, 6)),
                Thimble::digest);
        edges.sentence("32: a number x can be -1");
        edges.asked(digestOf(0, 1, 1, 1, 0, 0, 0, 0, 0, -1, 0, 0),
                Made.then(EMPTY, x -> x.same(0, 0)), Thimble::digest);
    }

    private void digestLeavesOut() {
        edges.sentence("32: and, if no more than 2 are FREE, answers()");
        Asker.Maker one = Made.then(EMPTY, x -> x.relation(3), x -> x.fact(0, 0, 0, 0));
        edges.asked(digestOf(1, 1, 0, 0, 0, 1, 0, 3, 0, 3, 0, 2 + 1, 1, -1, 0, 0),
                Made.then(one, x -> x.atom(0, 0, 1, 11)), Thimble::digest);
        edges.asked(digestOf(1, 1, 0, 0, 0, 1, 0, 3, 0, 3, 0, 1, 1, -1, 1, 0),
                Made.then(one, x -> x.atom(0, 0, 1, 10)), Thimble::digest);
        edges.asked(digestOf(1, 1, 0, 0, 0, 1, 0, 7, 0, 7, 0, 1, 1, -1, 0),
                Made.then(one, x -> x.atom(0, 0, 1, 2)), Thimble::digest);
        edges.asked(digestOf(1, 1, 0, 0, 0, 1, 0, 0, 0, 0, 0, 1, 1, -1, 1, 0),
                Made.then(one, x -> x.atom(0, 10, 10, 10)), Thimble::digest);
        edges.sentence("32: then tells(), if it is GROUNDED");
        edges.asked(digestOf(1, 1, 0, 0, 0, 0, 1, 0, 1, 0, 1, 1),
                Made.then(one, x -> x.rule(0, 0, 0, 0)), Thimble::digest);
        edges.asked(digestOf(1, 1, 0, 0, 0, 0, 1, 0, 0, 0, 1),
                Made.then(one, x -> x.rule(1, 0, 0, 0)), Thimble::digest);
        edges.sentence("32: then, GROUNDED or not, for each place in its ORDER order() of 0 and 1");
        edges.asked(digestOf(1, 1, 0, 0, 0, 0, 1, 2, 0, 2, 1, 1, 0, 1, 1),
                Made.then(one, x -> x.rule(1, 5, 0, 0), x -> x.add(0, 0, 0, 0, 0), x -> x.add(0, 0, 0, 10, 0)),
                Thimble::digest);
        edges.asked(digestOf(1, 1, 0, 0, 0, 0, 1, 2, 0, 2, 1, 0, 0, 0, 1),
                Made.then(one, x -> x.rule(1, 5, 0, 0), x -> x.add(0, 0, 0, 0, 0), x -> x.add(0, 0, 0, 11, 0)),
                Thimble::digest);
        edges.asked(digestOf(1, 1, 0, 0, 0, 0, 1, 1, 1, 1, 1, 0, 1, 1),
                Made.then(one, x -> x.rule(1, 0, 0, 0), x -> x.add(0, 0, 0, 0, 0)), Thimble::digest);
        edges.sentence("32: for each RULE p, for each RULE q (p itself, too), isWithin()");
        edges.asked(digestOf(0, 0, 3, 0, 1, 0, 1, 0, 0, 0, 0, 1, 0, 1, 1, 0, 0, 0, 1, 0, 0, 0, 1),
                Made.then(EMPTY, x -> x.rule(0, 0, 0, 0), x -> x.rule(1, 0, 0, 0), x -> x.rule(1, 10, 0, 0)),
                Thimble::digest);
        edges.asked(digestOf(1, 1, 0, 0, 0, 0, 2, 0, 1, 0, 1, 1, 1, 1, 1, 0, 1, 1, 0, 1, 1),
                Made.then(one, x -> x.rule(0, 0, 0, 0), x -> x.rule(0, 0, 0, 0), x -> x.add(1, 0, 0, 0, 0)),
                Thimble::digest);
    }

    private void digestOfAll() {
        edges.sentence("32: Returns d: the numbers that the other calls answer");
        for (Asker.Maker maker : new Asker.Maker[] {EMPTY, BARE, SMALL, FULL,
            Made.then(SMALL, x -> x.shorten(1), x -> x.translate(0), x -> x.drop(1, 1)),
            Made.then(FULL, x -> x.shorten(0), x -> x.shorten(7), x -> x.drop(0, 0))}) {
            edges.asked(new FaceDigest(maker).told(), maker, Thimble::digest);
        }
    }

    /** The digest as the document puts it together from the other calls. */
    private static final class FaceDigest {
        private final Asker asker;
        private BigInteger d = BigInteger.valueOf(58081);

        FaceDigest(Asker.Maker maker) {
            asker = new Asker(maker);
        }

        private int mixed(Asker.Call call) {
            int x = asker.number(call);
            d = d.multiply(BigInteger.valueOf(31)).add(BigInteger.valueOf(x));
            return x;
        }

        String told() {
            int relations = mixed(Thimble::relations);
            for (int r = 0; r < relations; r++) {
                mixRelation(r);
            }
            int formulas = mixed(Thimble::formulas);
            for (int f = 0; f < formulas; f++) {
                mixFormula(f);
            }
            int rules = mixed(Thimble::rules);
            for (int r = 0; r < rules; r++) {
                mixRule(r);
            }
            for (int k = 0; k < rules * rules; k++) {
                int p = k / rules;
                int q = k % rules;
                mixed(x -> x.isWithin(p, q));
            }
            return Long.toString(d.longValue());
        }

        private void mixRelation(int r) {
            int facts = mixed(x -> x.facts(r));
            for (int k = 0; k < facts * 3; k++) {
                int place = k / 3;
                int which = k % 3;
                if (!asker.told(x -> x.factAt(r, place, which)).startsWith("throws.")) {
                    mixed(x -> x.factAt(r, place, which));
                }
            }
        }

        private void mixFormula(int f) {
            for (int k = 0; k <= 5; k++) {
                int what = k;
                mixed(x -> x.ofFormula(f, what));
            }
            mixed(x -> x.isSafe(f));
            mixed(x -> x.loose(f));
            if (Integer.bitCount(asker.number(x -> x.ofFormula(f, 1))) <= 2) {
                mixed(x -> x.answers(f));
            }
        }

        private void mixRule(int r) {
            int atoms = mixed(x -> x.ofRule(r, 0));
            int isGrounded = mixed(x -> x.ofRule(r, 1));
            mixed(x -> x.ofRule(r, 2));
            if (isGrounded == 1) {
                mixed(x -> x.tells(r));
            }
            for (int k = 0; k < atoms; k++) {
                int place = k;
                mixed(x -> x.order(r, place, 0));
                mixed(x -> x.order(r, place, 1));
            }
        }
    }
}
