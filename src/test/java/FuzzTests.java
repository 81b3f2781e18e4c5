/** Made-up runs of calls, the same ones each time, whose answers are compared with those of Plain. */
public final class FuzzTests {
    private static final int RUNS = 2500;

    private final Checks checks = new Checks();
    private long seed;
    private Thimble x;
    private Plain plain;
    private int values;
    private int variables;
    private int wrongPercent;
    private StringBuilder run;

    public static void main(String[] args) {
        FuzzTests tests = new FuzzTests();
        for (int run = 0; run < RUNS; run++) {
            tests.run(run);
        }
        tests.checks.end("FuzzTests");
    }

    private int below(int bound) {
        seed = seed * 6364136223846793005L + 1442695040888963407L;
        return (int) ((seed >>> 33) % bound);
    }

    private void run(int number) {
        seed = number * 7919L + 12345;
        below(2);
        x = new Thimble();
        plain = new Plain();
        values = 1 + below(number % 10 == 0 ? 8 : 4);
        variables = 1 + below(6);
        wrongPercent = number % 3 == 0 ? 10 : 1;
        run = new StringBuilder("run " + number + ":");
        callRelations(0);
        callRelations(0);
        // Two calls come before them and one behind: 512 in all, as many as an object is good for.
        int calls = number % 50 == 0 ? 509 : 40 + below(100);
        int kind = number % 4;
        int facts = number % 5 < 2 ? below(40) : 0;
        for (int k = 0; k < facts; k++) {
            callRelations(1 + below(26));
        }
        for (int k = facts; k < calls; k++) {
            step(kind);
        }
        same("digest()", x::digest, plain::digest);
    }

    /** Kind 0: all calls; 1: mostly facts and formulas; 2: mostly rules; 3: one relation, many rules alike. */
    private void step(int kind) {
        int dice = below(100);
        if (dice < 25) {
            callRelations(below(kind == 3 ? 60 : 40));
        } else if (dice < (kind == 1 ? 90 : kind == 0 ? 62 : 35)) {
            callFormulas(below(100));
        } else if (dice < 96) {
            callRules(below(100));
        } else {
            callWouldBe(below(kind == 0 ? 12 : 10));
        }
    }

    private void same(String call, Checks.Call mine, Checks.Call due) {
        run.append(' ').append(call);
        String want = Checks.told(due);
        run.append('=').append(want);
        checks.due(run.length() < 4000 ? run.toString() : run.substring(0, 20) + " .. " + call, want, mine);
    }

    private boolean isWrong() {
        return below(100) < wrongPercent;
    }

    private int wild() {
        int[] all = {-1, 0, 1, 2, 3, 4, 5, 6, 7, 8, 9, 10, 17, 18, 23, 24, 25, 39, 40, 41, 99, 512, -7,
            Integer.MAX_VALUE, Integer.MIN_VALUE};
        return all[below(all.length)];
    }

    private int upTo(int size) {
        return isWrong() || size <= 0 ? wild() : below(size);
    }

    private int value() {
        return isWrong() ? wild() : below(values);
    }

    private int term() {
        if (isWrong()) {
            return wild();
        }
        return below(6) == 0 ? 10 + below(values) : below(variables);
    }

    private int variable() {
        return isWrong() ? wild() : below(variables);
    }

    private int lateFormula() {
        int size = plain.formulas();
        return isWrong() || size == 0 ? wild() : Math.max(below(size), below(size));
    }

    private int factsOf(int relation) {
        return relation >= 0 && relation < plain.relations() ? plain.facts(relation) : 3;
    }

    /** How many the call tells, or some other number where it throws. */
    private static int sizeOf(Checks.Call call) {
        String told = Checks.told(call);
        return told.startsWith("throws") ? 3 : Integer.parseInt(told);
    }

    private void callRelations(int dice) {
        int a = value();
        int b = value();
        int c = value();
        int r = upTo(plain.relations());
        int place = upTo(factsOf(r));
        int which = upTo(3);
        if (dice < 1) {
            int places = isWrong() ? wild() : 1 + below(3);
            same("relation(" + places + ")", () -> x.relation(places), () -> plain.relation(places));
        } else if (dice < 28) {
            same("fact(" + r + "," + a + "," + b + "," + c + ")", () -> x.fact(r, a, b, c),
                    () -> plain.fact(r, a, b, c));
        } else if (dice < 31) {
            same("drop(" + r + "," + place + ")", () -> x.drop(r, place), () -> plain.drop(r, place));
        } else if (dice < 33) {
            same("relations()", x::relations, plain::relations);
        } else if (dice < 35) {
            same("facts(" + r + ")", () -> x.facts(r), () -> plain.facts(r));
        } else {
            same("factAt(" + r + "," + place + "," + which + ")", () -> x.factAt(r, place, which),
                    () -> plain.factAt(r, place, which));
        }
    }

    private void callFormulas(int dice) {
        int a = lateFormula();
        int b = lateFormula();
        int r = upTo(plain.relations());
        int t = term();
        int u = term();
        int v = term();
        boolean is = below(2) == 0;
        int variable = variable();
        int what = upTo(6);
        if (dice < 14) {
            same("atom(" + r + "," + t + "," + u + "," + v + ")", () -> x.atom(r, t, u, v),
                    () -> plain.atom(r, t, u, v));
        } else if (dice < 18) {
            same("same(" + t + "," + u + ")", () -> x.same(t, u), () -> plain.same(t, u));
        } else if (dice < 25) {
            same("not(" + a + ")", () -> x.not(a), () -> plain.not(a));
        } else if (dice < 38) {
            same("join(" + is + "," + a + "," + b + ")", () -> x.join(is, a, b), () -> plain.join(is, a, b));
        } else if (dice < 50) {
            same("bind(" + is + "," + variable + "," + a + ")", () -> x.bind(is, variable, a),
                    () -> plain.bind(is, variable, a));
        } else if (dice < 52) {
            same("formulas()", x::formulas, plain::formulas);
        } else if (dice < 65) {
            same("ofFormula(" + a + "," + what + ")", () -> x.ofFormula(a, what), () -> plain.ofFormula(a, what));
        } else if (dice < 72) {
            same("isSafe(" + a + ")", () -> x.isSafe(a), () -> plain.isSafe(a));
        } else if (dice < 80) {
            same("loose(" + a + ")", () -> x.loose(a), () -> plain.loose(a));
        } else if (dice < 90) {
            same("answers(" + a + ")", () -> x.answers(a), () -> plain.answers(a));
        } else {
            int place = upTo(sizeOf(() -> plain.answers(a)));
            int which = upTo(2);
            same("answer(" + a + "," + place + "," + which + ")", () -> x.answer(a, place, which),
                    () -> plain.answer(a, place, which));
        }
    }

    private void callRules(int dice) {
        int p = upTo(plain.rules());
        int q = upTo(plain.rules());
        int r = upTo(plain.relations());
        int t = term();
        int u = term();
        int v = term();
        int variable = variable();
        if (dice < 8) {
            int many = isWrong() ? wild() : below(4);
            int last = Math.min(v, u);
            same("rule(" + many + "," + t + "," + u + "," + last + ")", () -> x.rule(many, t, u, last),
                    () -> plain.rule(many, t, u, last));
        } else if (dice < 38) {
            same("add(" + p + "," + r + "," + t + "," + u + "," + v + ")", () -> x.add(p, r, t, u, v),
                    () -> plain.add(p, r, t, u, v));
        } else if (dice < 40) {
            same("rules()", x::rules, plain::rules);
        } else if (dice < 48) {
            int what = upTo(3);
            same("ofRule(" + p + "," + what + ")", () -> x.ofRule(p, what), () -> plain.ofRule(p, what));
        } else if (dice < 56) {
            same("tells(" + p + ")", () -> x.tells(p), () -> plain.tells(p));
        } else if (dice < 64) {
            int place = upTo(sizeOf(() -> plain.tells(p)));
            int which = upTo(2);
            same("row(" + p + "," + place + "," + which + ")", () -> x.row(p, place, which),
                    () -> plain.row(p, place, which));
        } else if (dice < 74) {
            int place = upTo(sizeOf(() -> plain.ofRule(p, 0)));
            int what = upTo(2);
            same("order(" + p + "," + place + "," + what + ")", () -> x.order(p, place, what),
                    () -> plain.order(p, place, what));
        } else if (dice < 84) {
            same("isWithin(" + p + "," + q + ")", () -> x.isWithin(p, q), () -> plain.isWithin(p, q));
        } else if (dice < 92) {
            same("image(" + p + "," + q + "," + variable + ")", () -> x.image(p, q, variable),
                    () -> plain.image(p, q, variable));
        } else if (dice < 96) {
            same("shorten(" + p + ")", () -> x.shorten(p), () -> plain.shorten(p));
        } else {
            same("translate(" + p + ")", () -> x.translate(p), () -> plain.translate(p));
        }
    }

    private void callWouldBe(int dice) {
        int f = lateFormula();
        int r = upTo(plain.relations());
        int a = value();
        int b = value();
        int c = value();
        if (dice < 6) {
            same("answersWith(" + f + "," + r + "," + a + "," + b + "," + c + ")",
                    () -> x.answersWith(f, r, a, b, c), () -> plain.answersWith(f, r, a, b, c));
        } else if (dice < 10) {
            same("share(" + f + ")", () -> x.share(f), () -> plain.share(f));
        } else {
            same("digest()", x::digest, plain::digest);
        }
    }
}
