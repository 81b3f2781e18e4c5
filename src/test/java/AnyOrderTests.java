import java.util.ArrayList;
import java.util.List;

/** What is promised holds in any order of the calls: what one call leaves behind inside never shows in another. */
public final class AnyOrderTests {
    private static final int[] STRIDES = {1, -1, 7, -11, 101, 397};

    private record Question(String what, Asker.Call call, String due) { }

    private final Checks checks = new Checks();

    public static void main(String[] args) {
        AnyOrderTests tests = new AnyOrderTests();
        tests.inAnyOrder("small", Made.SMALL);
        tests.inAnyOrder("full", Made.FULL);
        tests.byTurns();
        tests.checks.end("AnyOrderTests");
    }

    private void inAnyOrder(String name, Asker.Maker maker) {
        List<Question> all = questions(maker);
        for (int stride : STRIDES) {
            Asker asker = new Asker(maker);
            for (int k = 0; k < all.size(); k++) {
                Question q = all.get(Math.floorMod(k * stride, all.size()));
                checks.due(name + ", stride " + stride + ": " + q.what, q.due, () -> asker.told(q.call));
            }
        }
    }

    /** Two objects are asked by turns; neither shows anything of the other one. */
    private void byTurns() {
        List<Question> ofSmall = questions(Made.SMALL);
        List<Question> ofFull = questions(Made.FULL);
        Asker small = new Asker(Made.SMALL);
        Asker full = new Asker(Made.FULL);
        for (int k = 0; k < ofFull.size(); k++) {
            Question s = ofSmall.get(k % ofSmall.size());
            Question f = ofFull.get(k);
            checks.due("by turns, small: " + s.what, s.due, () -> small.told(s.call));
            checks.due("by turns, full: " + f.what, f.due, () -> full.told(f.call));
        }
    }

    /** Each with what it answers as the first call on an object of its own. */
    private static List<Question> questions(Asker.Maker maker) {
        List<Question> all = new ArrayList<>();
        Thimble sizes = maker.make();
        for (int r = -1; r < sizes.relations(); r++) {
            int relation = r;
            put(all, maker, "facts " + r, x -> x.facts(relation));
            put(all, maker, "factAt " + r, x -> x.factAt(relation, 1, 0));
        }
        for (int f = -1; f < sizes.formulas(); f++) {
            putFormula(all, maker, f, (f + 1) % sizes.relations());
        }
        for (int p = -1; p < sizes.rules(); p++) {
            putRule(all, maker, p, sizes.rules());
        }
        put(all, maker, "digest", Thimble::digest);
        // The number of questions has no part in common with a stride, so that each one comes once.
        while (all.size() % 7 == 0 || all.size() % 11 == 0 || all.size() % 101 == 0 || all.size() % 397 == 0) {
            put(all, maker, "digest", Thimble::digest);
        }
        return all;
    }

    private static void put(List<Question> all, Asker.Maker maker, String what, Asker.Call call) {
        all.add(new Question(what, call, new Asker(maker).told(call)));
    }

    private static void putFormula(List<Question> all, Asker.Maker maker, int f, int relation) {
        for (int k = 0; k <= 6; k++) {
            int what = k;
            put(all, maker, "ofFormula " + f + " " + k, x -> x.ofFormula(f, what));
        }
        put(all, maker, "isSafe " + f, x -> x.isSafe(f));
        put(all, maker, "loose " + f, x -> x.loose(f));
        put(all, maker, "answers " + f, x -> x.answers(f));
        put(all, maker, "answer " + f, x -> x.answer(f, 1, 0));
        put(all, maker, "share " + f, x -> x.share(f));
        put(all, maker, "answersWith " + f, x -> x.answersWith(f, relation, 6, 7, 5));
    }

    private static void putRule(List<Question> all, Asker.Maker maker, int p, int rules) {
        for (int k = 0; k <= 3; k++) {
            int what = k;
            put(all, maker, "ofRule " + p + " " + k, x -> x.ofRule(p, what));
        }
        put(all, maker, "tells " + p, x -> x.tells(p));
        put(all, maker, "row " + p, x -> x.row(p, 0, 0));
        for (int k = 0; k <= 5; k++) {
            int place = k;
            put(all, maker, "order " + p + " " + k, x -> x.order(p, place, 0));
            put(all, maker, "size " + p + " " + k, x -> x.order(p, place, 1));
        }
        for (int k = 0; k < rules; k++) {
            int q = k;
            put(all, maker, "isWithin " + p + " " + q, x -> x.isWithin(p, q));
            put(all, maker, "image " + p + " " + q, x -> x.image(p, q, 2));
        }
    }
}
