/** All that the calls that only ask tell of an object: what a refused call must leave as it was. */
final class Picture {
    /** Of long lists of rows so many from each end are looked at. */
    private static final int ROWS = 12;

    private final Asker asker;
    private final StringBuilder seen = new StringBuilder();

    private Picture(Asker.Maker maker) {
        asker = new Asker(maker);
    }

    static String of(Asker.Maker maker) {
        Picture p = new Picture(maker);
        p.lookAtRelations();
        p.lookAtFormulas();
        p.lookAtRules();
        p.look("digest", Thimble::digest);
        return p.seen.toString();
    }

    private void look(String what, Asker.Call call) {
        seen.append(what).append('=').append(asker.told(call)).append('\n');
    }

    private void lookAtRelations() {
        look("relations", Thimble::relations);
        for (int k = 0; k < asker.number(Thimble::relations); k++) {
            int r = k;
            look("facts " + r, x -> x.facts(r));
            for (int fact = 0; fact < asker.number(x -> x.facts(r)); fact++) {
                int at = fact;
                for (int place = 0; place < 3; place++) {
                    int which = place;
                    look("factAt " + r + " " + at + " " + which, x -> x.factAt(r, at, which));
                }
            }
        }
    }

    private void lookAtFormulas() {
        look("formulas", Thimble::formulas);
        for (int k = 0; k < asker.number(Thimble::formulas); k++) {
            int f = k;
            for (int part = 0; part <= 5; part++) {
                int what = part;
                look("ofFormula " + f + " " + what, x -> x.ofFormula(f, what));
            }
            look("isSafe " + f, x -> x.isSafe(f));
            look("loose " + f, x -> x.loose(f));
            look("answers " + f, x -> x.answers(f));
            int many = asker.number(x -> x.answers(f));
            lookAtRows("answer " + f, many, (x, at, which) -> x.answer(f, at, which));
        }
    }

    private void lookAtRules() {
        look("rules", Thimble::rules);
        int rules = asker.number(Thimble::rules);
        for (int k = 0; k < rules; k++) {
            int r = k;
            for (int part = 0; part <= 2; part++) {
                int what = part;
                look("ofRule " + r + " " + what, x -> x.ofRule(r, what));
            }
            look("tells " + r, x -> x.tells(r));
            int many = asker.number(x -> x.tells(r));
            lookAtRows("row " + r, many, (x, at, which) -> x.row(r, at, which));
            for (int place = 0; place < asker.number(x -> x.ofRule(r, 0)); place++) {
                int at = place;
                look("order " + r + " " + at, x -> x.order(r, at, 0));
                look("size " + r + " " + at, x -> x.order(r, at, 1));
            }
            for (int other = 0; other < rules; other++) {
                lookAtMap(r, other);
            }
        }
    }

    private void lookAtMap(int p, int q) {
        look("isWithin " + p + " " + q, x -> x.isWithin(p, q));
        for (int variable = 0; variable <= 5; variable++) {
            int v = variable;
            look("image " + p + " " + q + " " + v, x -> x.image(p, q, v));
        }
    }

    private interface ValueOfRow {
        Object of(Thimble x, int place, int which);
    }

    private void lookAtRows(String what, int many, ValueOfRow value) {
        for (int place = 0; place < many; place++) {
            if (place < ROWS || place >= many - ROWS) {
                int at = place;
                for (int column = 0; column < 3; column++) {
                    int which = column;
                    look(what + " " + at + " " + which, x -> value.of(x, at, which));
                }
            }
        }
    }
}
