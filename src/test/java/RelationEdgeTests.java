/**
 * Promises 1 to 7, and what 'Terms' says of relations:
 * a test for each sentence that names a boundary case.
 */
public final class RelationEdgeTests {
    private static final Asker.Maker EMPTY = Made.EMPTY;
    private static final Asker.Maker SMALL = Made.SMALL;
    private static final Asker.Maker FULL = Made.FULL;
    private static final int[] NO_RELATION_OF_SMALL = {-1, 3, 6, Edges.LEAST, Edges.MOST};
    private static final int[] NO_VALUE = {-1, 8, 10, 17, Edges.LEAST, Edges.MOST};
    private static final int[] WILD = {-1, 0, 7, 8, 10, 99, Edges.LEAST, Edges.MOST};

    private final Edges edges = new Edges();

    public static void main(String[] args) {
        RelationEdgeTests tests = new RelationEdgeTests();
        tests.newObject();
        tests.callsOfAnObject();
        tests.relation();
        tests.factRefused();
        tests.factFull();
        tests.factTwice();
        tests.factNotLookedAt();
        tests.factsInOrder();
        tests.drop();
        tests.dropDownToNone();
        tests.relations();
        tests.facts();
        tests.factAtRefused();
        tests.factAtSeveralExceptions();
        tests.edges.end("RelationEdgeTests");
    }

    private void newObject() {
        edges.sentence("1: Creates a calculus without RELATIONS.");
        edges.asked(0, EMPTY, Thimble::relations);
        edges.asked(0, EMPTY, Thimble::formulas);
        edges.asked(0, EMPTY, Thimble::rules);
        edges.asked(((58081L * 31 + 0) * 31 + 0) * 31 + 0, EMPTY, Thimble::digest);
        edges.sentence("1: another object has nothing of a first one");
        edges.due(0, () -> {
            Made.FULL.make();
            return new Thimble();
        }, Thimble::relations);
        edges.sentence("no such RELATION, FORMULA or RULE: a new object has none");
        for (Asker.Call call : new Asker.Call[] {
            x -> x.fact(0, 0, 0, 0), x -> x.drop(0, 0), x -> x.facts(0), x -> x.factAt(0, 0, 0),
            x -> x.atom(0, 0, 0, 0), x -> x.not(0), x -> x.join(true, 0, 0), x -> x.bind(true, 0, 0),
            x -> x.ofFormula(0, 0), x -> x.isSafe(0), x -> x.loose(0), x -> x.answers(0), x -> x.answer(0, 0, 0),
            x -> x.add(0, 0, 0, 0, 0), x -> x.ofRule(0, 0), x -> x.tells(0), x -> x.row(0, 0, 0),
            x -> x.order(0, 0, 0), x -> x.isWithin(0, 0), x -> x.image(0, 0, 0), x -> x.shorten(0),
            x -> x.translate(0), x -> x.answersWith(0, 0, 0, 0, 0), x -> x.share(0)}) {
            edges.refused(Edges.INDEX, EMPTY, call);
        }
        edges.sentence("what needs no RELATION goes with a new object");
        edges.due(0, EMPTY, x -> x.same(0, 0));
        edges.due(0, EMPTY, x -> x.rule(3, 0, 1, 2));
    }

    private void callsOfAnObject() {
        edges.sentence("An object is used for at most 512 calls after it has been made");
        Thimble x = new Thimble();
        x.relation(1);
        for (int call = 2; call < 512; call++) {
            int value = call % 8;
            edges.due(Math.min(call - 1, 8), () -> x, y -> y.fact(0, value, 0, 0));
        }
        edges.due(8, () -> x, y -> y.facts(0));
    }

    private void relation() {
        edges.sentence("2: Throws IllegalArgumentException if places is not 1 to 3");
        for (int places : new int[] {0, 4, -1, Edges.LEAST, Edges.MOST}) {
            edges.refused(Edges.ARGUMENT, EMPTY, x -> x.relation(places));
            edges.refused(Edges.ARGUMENT, SMALL, x -> x.relation(places));
        }
        for (int places = 1; places <= 3; places++) {
            int right = places;
            edges.due(0, EMPTY, x -> x.relation(right));
            edges.due(3, SMALL, x -> x.relation(right));
        }
        edges.sentence("2: Throws IllegalStateException if there are 6");
        Asker.Maker five = Made.then(SMALL, x -> x.relation(1), x -> x.relation(3));
        edges.due(5, five, x -> x.relation(2));
        Asker.Maker six = Made.then(five, x -> x.relation(2));
        for (int places = 1; places <= 3; places++) {
            int right = places;
            edges.refused(Edges.STATE, six, x -> x.relation(right));
            edges.refused(Edges.STATE, FULL, x -> x.relation(right));
        }
        edges.sentence("2: If several exceptions apply: no such number of PLACES, and there are 6");
        edges.refused(Edges.ARGUMENT, FULL, x -> x.relation(0));
        edges.refused(Edges.ARGUMENT, FULL, x -> x.relation(4));
    }

    private void factRefused() {
        edges.sentence("3: Throws IndexOutOfBoundsException if there is no such RELATION");
        for (int wrong : NO_RELATION_OF_SMALL) {
            edges.refused(Edges.INDEX, SMALL, x -> x.fact(wrong, 0, 0, 0));
        }
        edges.refused(Edges.INDEX, FULL, x -> x.fact(6, 0, 0, 0));
        edges.sentence("3: Throws IllegalArgumentException if one that is looked at is not 0 to 7");
        for (int wrong : NO_VALUE) {
            for (int r = 0; r < 3; r++) {
                int relation = r;
                edges.refused(Edges.ARGUMENT, SMALL, x -> x.fact(relation, wrong, 0, 0));
            }
            edges.refused(Edges.ARGUMENT, SMALL, x -> x.fact(Made.EDGE, 0, wrong, 0));
            edges.refused(Edges.ARGUMENT, SMALL, x -> x.fact(Made.TRIPLE, 0, wrong, 0));
            edges.refused(Edges.ARGUMENT, SMALL, x -> x.fact(Made.TRIPLE, 0, 0, wrong));
        }
        for (int k = 0; k <= 7; k++) {
            int value = k;
            Asker.Maker none = Made.then(EMPTY, x -> x.relation(3), x -> x.fact(0, value, 7 - value, value));
            edges.due(value, none, x -> x.factAt(0, 0, 0));
            edges.due(7 - value, none, x -> x.factAt(0, 0, 1));
            edges.due(value, none, x -> x.factAt(0, 0, 2));
        }
        edges.sentence("3: If several exceptions apply: no such RELATION, and no VALUE");
        edges.refused(Edges.INDEX, SMALL, x -> x.fact(3, 8, 8, 8));
        edges.refused(Edges.INDEX, SMALL, x -> x.fact(-1, -1, -1, -1));
        edges.refused(Edges.INDEX, FULL, x -> x.fact(6, 8, 8, 8));
    }

    private void factFull() {
        edges.sentence("3: Throws IllegalStateException if it is none, and there are 24");
        edges.due(24, FULL, x -> x.fact(4, 2, 7, 0));
        edges.refused(Edges.STATE, FULL, x -> x.fact(1, 3, 0, 0));
        edges.refused(Edges.STATE, FULL, x -> x.fact(1, 7, 7, 0));
        edges.refused(Edges.STATE, FULL, x -> x.fact(2, 0, 3, 0));
        edges.refused(Edges.STATE, FULL, x -> x.fact(2, 7, 7, 7));
        edges.refused(Edges.STATE, Made.then(FULL, x -> x.fact(4, 7, 7, 0)), x -> x.fact(4, 2, 7, 0));
        edges.due(24, Made.then(FULL, x -> x.drop(1, 0)), x -> x.fact(1, 7, 7, 0));
        edges.refused(Edges.STATE, Made.then(FULL, x -> x.drop(1, 0), x -> x.fact(1, 7, 7, 0)),
                x -> x.fact(1, 0, 0, 0));
        edges.sentence("3: If several exceptions apply: no VALUE, and there are 24");
        edges.refused(Edges.ARGUMENT, FULL, x -> x.fact(1, 8, 0, 0));
        edges.refused(Edges.ARGUMENT, FULL, x -> x.fact(1, 0, 8, 0));
        edges.refused(Edges.ARGUMENT, FULL, x -> x.fact(2, 0, 0, -1));
        edges.refused(Edges.STATE, FULL, x -> x.fact(1, 7, 7, 99));
    }

    private void factTwice() {
        edges.sentence("3: (as many as before, if it is one already)");
        edges.asked(2, SMALL, x -> x.fact(Made.MARK, 2, 0, 0));
        edges.asked(4, SMALL, x -> x.fact(Made.EDGE, 1, 2, 0));
        edges.asked(4, SMALL, x -> x.fact(Made.EDGE, 3, 4, 0));
        edges.asked(2, SMALL, x -> x.fact(Made.TRIPLE, 1, 2, 3));
        edges.asked(8, FULL, x -> x.fact(0, 7, 0, 0));
        edges.asked(24, FULL, x -> x.fact(1, 0, 0, 0));
        edges.asked(24, FULL, x -> x.fact(1, 2, 7, 0));
        edges.asked(24, FULL, x -> x.fact(2, 0, 2, 7));
        edges.sentence("3: Returns how many FACTS the RELATION has then");
        edges.due(3, SMALL, x -> x.fact(Made.MARK, 0, 0, 0));
        edges.due(5, SMALL, x -> x.fact(Made.EDGE, 2, 1, 0));
        edges.due(3, SMALL, x -> x.fact(Made.TRIPLE, 1, 1, 1));
        edges.due(1, FULL, x -> x.fact(3, 7, 0, 0));
        edges.due(1, SMALL, x -> x.relation(2), x -> x.fact(3, 1, 2, 0));
    }

    private void factNotLookedAt() {
        edges.sentence("3: b: not looked at, if it has no such PLACE");
        for (int wild : WILD) {
            edges.due(3, SMALL, x -> x.fact(Made.MARK, 7, wild, 0));
            edges.asked(2, SMALL, x -> x.fact(Made.MARK, 4, wild, 0));
            edges.due(7, SMALL, x -> x.fact(Made.MARK, 7, wild, 0), x -> x.factAt(Made.MARK, 2, 0));
        }
        edges.sentence("3: so the third one");
        for (int wild : WILD) {
            edges.due(3, SMALL, x -> x.fact(Made.MARK, 7, 0, wild));
            edges.due(5, SMALL, x -> x.fact(Made.EDGE, 7, 0, wild));
            edges.asked(2, SMALL, x -> x.fact(Made.MARK, 4, 0, wild));
            edges.asked(4, SMALL, x -> x.fact(Made.EDGE, 3, 4, wild));
            edges.due(6, SMALL, x -> x.fact(Made.EDGE, 7, 6, wild), x -> x.factAt(Made.EDGE, 4, 1));
        }
    }

    private void factsInOrder() {
        edges.sentence("told in order: by the first VALUE, then by the second, then by the third one");
        int[][] rows = {{7, 7, 7}, {0, 0, 7}, {0, 7, 0}, {7, 0, 0}, {0, 0, 0}, {0, 7, 7}, {7, 7, 0}, {7, 0, 7}};
        Asker.Maker corners = () -> {
            Thimble x = new Thimble();
            x.relation(3);
            for (int[] row : rows) {
                x.fact(0, row[0], row[1], row[2]);
            }
            return x;
        };
        for (int k = 0; k < 8; k++) {
            int place = k;
            for (int i = 0; i < 3; i++) {
                int which = i;
                edges.due((place >> 2 - which & 1) * 7, corners, x -> x.factAt(0, place, which));
            }
        }
        edges.sentence("each once: the same row in another RELATION is another FACT");
        edges.due(1, SMALL, x -> x.relation(2), x -> x.fact(3, 1, 2, 0));
        edges.due(4, SMALL, x -> x.relation(2), x -> x.fact(3, 7, 7, 0), x -> x.facts(Made.EDGE));
    }

    private void drop() {
        edges.sentence("4: Throws IndexOutOfBoundsException if there is no such RELATION");
        for (int wrong : NO_RELATION_OF_SMALL) {
            edges.refused(Edges.INDEX, SMALL, x -> x.drop(wrong, 0));
        }
        edges.refused(Edges.INDEX, FULL, x -> x.drop(6, 0));
        edges.sentence("4: .. or FACT");
        for (int wrong : new int[] {-1, Edges.LEAST, Edges.MOST}) {
            edges.refused(Edges.INDEX, SMALL, x -> x.drop(Made.EDGE, wrong));
        }
        edges.refused(Edges.INDEX, SMALL, x -> x.drop(Made.MARK, 2));
        edges.refused(Edges.INDEX, SMALL, x -> x.drop(Made.EDGE, 4));
        edges.refused(Edges.INDEX, FULL, x -> x.drop(1, 24));
        edges.refused(Edges.INDEX, FULL, x -> x.drop(4, 23));
        edges.refused(Edges.INDEX, FULL, x -> x.drop(3, 0));
        edges.sentence("4: Returns how many there are then");
        edges.due(23, FULL, x -> x.drop(1, 23));
        edges.due(23, FULL, x -> x.drop(2, 0));
        edges.due(3, SMALL, x -> x.drop(Made.EDGE, 3));
        edges.due(3, SMALL, x -> x.drop(Made.EDGE, 0));
        edges.sentence("4: place: its place, in order, from 0");
        edges.due(1, SMALL, x -> x.drop(Made.EDGE, 3), x -> x.factAt(Made.EDGE, 2, 1));
        edges.due(2, SMALL, x -> x.drop(Made.EDGE, 0), x -> x.factAt(Made.EDGE, 0, 0));
        edges.due(6, FULL, x -> x.drop(1, 23), x -> x.factAt(1, 22, 1));
        edges.due(1, FULL, x -> x.drop(1, 0), x -> x.factAt(1, 0, 1));
        edges.due(7, FULL, x -> x.drop(1, 0), x -> x.factAt(1, 22, 1));
    }

    private void dropDownToNone() {
        edges.sentence("4: the last FACT of a RELATION");
        Asker.Maker one = Made.then(SMALL, x -> x.drop(Made.MARK, 0));
        edges.due(0, one, x -> x.drop(Made.MARK, 0));
        Asker.Maker none = Made.then(one, x -> x.drop(Made.MARK, 0));
        edges.refused(Edges.INDEX, none, x -> x.drop(Made.MARK, 0));
        edges.refused(Edges.INDEX, none, x -> x.factAt(Made.MARK, 0, 0));
        edges.asked(0, none, x -> x.facts(Made.MARK));
        edges.asked(0, none, x -> x.answers(1));
        edges.due(1, none, x -> x.fact(Made.MARK, 2, 0, 0));
        edges.sentence("4: a FACT that was taken away can come again");
        edges.due(4, Made.then(SMALL, x -> x.drop(Made.EDGE, 1)), x -> x.fact(Made.EDGE, 2, 3, 0));
        long before = SMALL.make().digest();
        edges.due(before, SMALL, x -> x.drop(Made.EDGE, 1), x -> x.fact(Made.EDGE, 2, 3, 0), Thimble::digest);
    }

    private void relations() {
        edges.sentence("5: Returns how many RELATIONS there are.");
        edges.asked(0, EMPTY, Thimble::relations);
        edges.asked(3, SMALL, Thimble::relations);
        edges.asked(6, FULL, Thimble::relations);
        edges.due(1, EMPTY, x -> x.relation(1), Thimble::relations);
    }

    private void facts() {
        edges.sentence("6: Throws IndexOutOfBoundsException if there is no such RELATION");
        for (int wrong : NO_RELATION_OF_SMALL) {
            edges.refused(Edges.INDEX, SMALL, x -> x.facts(wrong));
        }
        edges.refused(Edges.INDEX, FULL, x -> x.facts(6));
        edges.sentence("6: Returns how many FACTS it has.");
        int[] many = {8, 24, 24, 0, 23, 24};
        for (int k = 0; k < 6; k++) {
            int r = k;
            edges.asked(many[r], FULL, x -> x.facts(r));
        }
        edges.asked(4, SMALL, x -> x.facts(Made.EDGE));
    }

    private void factAtRefused() {
        edges.sentence("7: Throws IndexOutOfBoundsException if there is no such RELATION");
        for (int wrong : NO_RELATION_OF_SMALL) {
            edges.refused(Edges.INDEX, SMALL, x -> x.factAt(wrong, 0, 0));
        }
        edges.refused(Edges.INDEX, FULL, x -> x.factAt(6, 0, 0));
        edges.sentence("7: .. or FACT");
        for (int wrong : new int[] {-1, 4, Edges.LEAST, Edges.MOST}) {
            edges.refused(Edges.INDEX, SMALL, x -> x.factAt(Made.EDGE, wrong, 0));
        }
        edges.refused(Edges.INDEX, FULL, x -> x.factAt(1, 24, 0));
        edges.refused(Edges.INDEX, FULL, x -> x.factAt(3, 0, 0));
        edges.asked(2, FULL, x -> x.factAt(1, 23, 0));
        edges.asked(7, FULL, x -> x.factAt(2, 23, 2));
        edges.sentence("7: Throws IllegalArgumentException if it has no such PLACE");
        for (int r = 0; r < 3; r++) {
            int relation = r;
            for (int wrong : new int[] {-1, r + 1, Edges.LEAST, Edges.MOST}) {
                edges.refused(Edges.ARGUMENT, SMALL, x -> x.factAt(relation, 0, wrong));
            }
        }
        edges.asked(2, SMALL, x -> x.factAt(Made.MARK, 0, 0));
        edges.asked(2, SMALL, x -> x.factAt(Made.EDGE, 0, 1));
        edges.asked(3, SMALL, x -> x.factAt(Made.TRIPLE, 0, 2));
    }

    private void factAtSeveralExceptions() {
        edges.sentence("7: If several exceptions apply: no such RELATION, and no such PLACE");
        edges.refused(Edges.INDEX, SMALL, x -> x.factAt(3, 0, 3));
        edges.refused(Edges.INDEX, SMALL, x -> x.factAt(-1, -1, -1));
        edges.sentence("7: If several exceptions apply: no such FACT, and no such PLACE");
        edges.refused(Edges.INDEX, SMALL, x -> x.factAt(Made.EDGE, 4, 2));
        edges.refused(Edges.INDEX, SMALL, x -> x.factAt(Made.EDGE, -1, -1));
        edges.refused(Edges.INDEX, FULL, x -> x.factAt(3, 0, 1));
    }
}
