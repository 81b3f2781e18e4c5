/** For each promise of the document: ordinary calls, the edges that it names, and wrong ones. */
public final class PromiseTests {
    private static final Class<IndexOutOfBoundsException> INDEX = IndexOutOfBoundsException.class;
    private static final Class<IllegalArgumentException> ARGUMENT = IllegalArgumentException.class;
    private static final Class<IllegalStateException> STATE = IllegalStateException.class;
    private static final int LEAST = Integer.MIN_VALUE;
    private static final int MOST = Integer.MAX_VALUE;

    private final Checks checks = new Checks();

    public static void main(String[] args) {
        PromiseTests tests = new PromiseTests();
        tests.relations();
        tests.formulas();
        tests.formulasAnswered();
        tests.rules();
        tests.rulesCompared();
        tests.whatWouldBe();
        tests.checks.end("PromiseTests");
    }

    private void relations() {
        promise1NewObject();
        promise2Relation();
        promise3Fact();
        promise4Drop();
        promise5to7Facts();
    }

    private void formulas() {
        promise8Atom();
        promise9Same();
        promise10Not();
        promise11Join();
        promise12Bind();
        promise13Formulas();
        promise14OfFormula();
        promise14BoundUpAndDown();
        promise15IsSafe();
        promise16Loose();
    }

    private void formulasAnswered() {
        promise17Answers();
        promise17EmptyDomain();
        promise17OrderOfVariables();
        promise17Shadowing();
        promise17EachVariable();
        promise18Answer();
    }

    private void rules() {
        promise19Rule();
        promise20Add();
        promise21Rules();
        promise22OfRule();
        promise23Tells();
        promise24Row();
        promise25Order();
        promise25Sizes();
    }

    private void rulesCompared() {
        promise26IsWithin();
        promise27Image();
        promise28Shorten();
        promise29Translate();
        promise29TranslateRefused();
    }

    private void whatWouldBe() {
        promise30AnswersWith();
        promise31Share();
        promise32Digest();
    }

    private void due(String what, Object want, Checks.Call call) {
        checks.due(what, want, call);
    }

    /** 0: edges 1-2, 2-3, 3-1, 3-4; 1: marks 2, 4. */
    private static Thimble graph() {
        Thimble x = new Thimble();
        x.relation(2);
        x.relation(1);
        x.fact(0, 3, 4, 0);
        x.fact(0, 1, 2, 0);
        x.fact(0, 3, 1, 0);
        x.fact(0, 2, 3, 0);
        x.fact(1, 4, 0, 0);
        x.fact(1, 2, 0, 0);
        return x;
    }

    /** So many facts of three places: the rows 0 0 0, 0 0 1 and so on. */
    private static void fill(Thimble x, int relation, int many) {
        for (int k = 0; k < many; k++) {
            x.fact(relation, 0, k / 8, k % 8);
        }
    }

    private static String rows(Thimble x, int formula) {
        StringBuilder all = new StringBuilder();
        int width = Integer.bitCount(x.ofFormula(formula, 1));
        for (int k = 0; k < x.answers(formula); k++) {
            all.append(k == 0 ? "" : " ");
            for (int i = 0; i < width; i++) {
                all.append(x.answer(formula, k, i));
            }
        }
        return all.toString();
    }

    private static String rowsOfRule(Thimble x, int rule, int width) {
        StringBuilder all = new StringBuilder();
        for (int k = 0; k < x.tells(rule); k++) {
            all.append(k == 0 ? "" : " ");
            for (int i = 0; i < width; i++) {
                all.append(x.row(rule, k, i));
            }
        }
        return all.toString();
    }

    private void promise1NewObject() {
        Thimble x = new Thimble();
        due("1 relations", 0, x::relations);
        due("1 formulas", 0, x::formulas);
        due("1 rules", 0, x::rules);
    }

    private void promise2Relation() {
        Thimble x = new Thimble();
        for (int places : new int[] {0, 4, -1, LEAST, MOST}) {
            checks.fails("2 relation(" + places + ")", x, ARGUMENT, () -> x.relation(places));
        }
        for (int k = 0; k < 6; k++) {
            int number = k;
            due("2 number " + k, number, () -> x.relation(1 + number % 3));
        }
        checks.fails("2 the seventh", x, STATE, () -> x.relation(1));
        checks.fails("2 the seventh, and wrong", x, ARGUMENT, () -> x.relation(0));
    }

    private void promise3Fact() {
        Thimble x = new Thimble();
        checks.fails("3 no relation", x, INDEX, () -> x.fact(0, 9, 9, 9));
        x.relation(1);
        x.relation(2);
        x.relation(3);
        due("3 one place", 1, () -> x.fact(0, 7, 99, -1));
        due("3 the same, as the rest is not looked at", 1, () -> x.fact(0, 7, 0, 0));
        due("3 two places", 1, () -> x.fact(1, 1, 2, 8));
        due("3 the other way round", 2, () -> x.fact(1, 2, 1, 0));
        due("3 three places", 1, () -> x.fact(2, 0, 0, 0));
        due("3 the last place counts", 2, () -> x.fact(2, 0, 0, 7));
        checks.fails("3 number -1", x, INDEX, () -> x.fact(-1, 0, 0, 0));
        checks.fails("3 number 3", x, INDEX, () -> x.fact(3, 0, 0, 0));
        checks.fails("3 a", x, ARGUMENT, () -> x.fact(0, 8, 0, 0));
        checks.fails("3 a below", x, ARGUMENT, () -> x.fact(0, -1, 0, 0));
        checks.fails("3 b", x, ARGUMENT, () -> x.fact(1, 0, 8, 0));
        checks.fails("3 b below", x, ARGUMENT, () -> x.fact(1, 0, LEAST, 0));
        checks.fails("3 c", x, ARGUMENT, () -> x.fact(2, 0, 0, MOST));
        checks.fails("3 c below", x, ARGUMENT, () -> x.fact(2, 0, 0, -1));
        x.relation(3);
        fill(x, 3, 23);
        due("3 the 24th", 24, () -> x.fact(3, 7, 7, 7));
        due("3 one that is there", 24, () -> x.fact(3, 0, 0, 3));
        checks.fails("3 the 25th", x, STATE, () -> x.fact(3, 7, 7, 6));
        checks.fails("3 the 25th, and wrong", x, ARGUMENT, () -> x.fact(3, 7, 7, 8));
    }

    private void promise4Drop() {
        Thimble x = graph();
        due("4 the second", 3, () -> x.drop(0, 1));
        due("4 what moved up", 3, () -> x.factAt(0, 1, 0));
        due("4 what moved up, b", 1, () -> x.factAt(0, 1, 1));
        checks.fails("4 past the last", x, INDEX, () -> x.drop(0, 3));
        checks.fails("4 below", x, INDEX, () -> x.drop(0, -1));
        checks.fails("4 no relation", x, INDEX, () -> x.drop(2, 0));
        checks.fails("4 relation -1", x, INDEX, () -> x.drop(-1, 0));
        due("4 the last one", 2, () -> x.drop(0, 2));
        x.drop(0, 0);
        due("4 none left", 0, () -> x.drop(0, 0));
        checks.fails("4 of none", x, INDEX, () -> x.drop(0, 0));
        x.fact(0, 5, 5, 0);
        x.atom(0, 0, 0, 0);
        x.atom(0, 0, 1, 0);
        due("4 of two like values", "5", () -> rows(x, 0));
        x.drop(0, 0);
        x.fact(0, 0, 5, 0);
        due("4 they are gone", "", () -> rows(x, 0));
        due("4 the new one is there", "05", () -> rows(x, 1));
    }

    private void promise5to7Facts() {
        Thimble x = graph();
        due("5 relations", 2, x::relations);
        due("6 facts 0", 4, () -> x.facts(0));
        due("6 facts 1", 2, () -> x.facts(1));
        checks.fails("6 past", x, INDEX, () -> x.facts(2));
        checks.fails("6 below", x, INDEX, () -> x.facts(-1));
        int[] sorted = {1, 2, 2, 3, 3, 1, 3, 4};
        for (int k = 0; k < 8; k++) {
            int at = k;
            due("7 in order " + k, sorted[at], () -> x.factAt(0, at / 2, at % 2));
        }
        checks.fails("7 no relation", x, INDEX, () -> x.factAt(2, 0, 0));
        checks.fails("7 relation below", x, INDEX, () -> x.factAt(LEAST, 0, 0));
        checks.fails("7 no fact", x, INDEX, () -> x.factAt(0, 4, 9));
        checks.fails("7 fact below", x, INDEX, () -> x.factAt(0, -1, 0));
        checks.fails("7 no place", x, ARGUMENT, () -> x.factAt(0, 0, 2));
        checks.fails("7 place below", x, ARGUMENT, () -> x.factAt(0, 0, -1));
        x.relation(3);
        x.fact(2, 1, 0, 0);
        x.fact(2, 0, 7, 7);
        x.fact(2, 1, 0, 5);
        x.fact(2, 0, 7, 6);
        due("7 by the third", 6, () -> x.factAt(2, 0, 2));
        due("7 by the first", 5, () -> x.factAt(2, 3, 2));
    }

    private void promise8Atom() {
        Thimble x = graph();
        x.relation(3);
        due("8 one place", 0, () -> x.atom(1, 5, 99, -1));
        due("8 two places", 1, () -> x.atom(0, 0, 17, 6));
        due("8 three places", 2, () -> x.atom(2, 10, 1, 1));
        due("8 kind", 0, () -> x.ofFormula(2, 0));
        due("8 free", 1 << 5, () -> x.ofFormula(0, 1));
        due("8 values", (1 << 1) + (1 << 2) + (1 << 3) + (1 << 4) + (1 << 7), () -> x.ofFormula(1, 5));
        checks.fails("8 no relation", x, INDEX, () -> x.atom(3, 6, 6, 6));
        checks.fails("8 relation below", x, INDEX, () -> x.atom(-1, 0, 0, 0));
        for (int wrong : new int[] {-1, 6, 9, 18, MOST, LEAST}) {
            checks.fails("8 t " + wrong, x, ARGUMENT, () -> x.atom(1, wrong, 0, 0));
            checks.fails("8 u " + wrong, x, ARGUMENT, () -> x.atom(0, 0, wrong, 0));
            checks.fails("8 v " + wrong, x, ARGUMENT, () -> x.atom(2, 0, 0, wrong));
        }
        for (int k = 3; k < 40; k++) {
            x.atom(1, 0, 0, 0);
        }
        checks.fails("8 the 41st", x, STATE, () -> x.atom(1, 0, 0, 0));
        checks.fails("8 the 41st, and wrong", x, ARGUMENT, () -> x.atom(1, 6, 0, 0));
        checks.fails("8 the 41st, and of none", x, INDEX, () -> x.atom(9, 6, 0, 0));
    }

    private void promise9Same() {
        Thimble x = graph();
        due("9 number", 0, () -> x.same(1, 3));
        due("9 kind", 1, () -> x.ofFormula(0, 0));
        due("9 of two variables", "11 22 33 44", () -> rows(x, 0));
        x.same(14, 5);
        due("9 of a value and a variable", "4", () -> rows(x, 1));
        x.same(5, 5);
        due("9 of one variable", "1 2 3 4", () -> rows(x, 2));
        x.same(0, 1);
        due("9 of the first two", "11 22 33 44", () -> rows(x, 3));
        x.same(17, 17);
        due("9 of a value with itself", 1, () -> x.answers(4));
        x.same(17, 16);
        due("9 of two values", 0, () -> x.answers(5));
        for (int wrong : new int[] {-1, 6, 9, 18, MOST, LEAST}) {
            checks.fails("9 t " + wrong, x, ARGUMENT, () -> x.same(wrong, 0));
            checks.fails("9 u " + wrong, x, ARGUMENT, () -> x.same(0, wrong));
        }
        for (int k = 6; k < 40; k++) {
            x.same(0, 0);
        }
        checks.fails("9 the 41st", x, STATE, () -> x.same(0, 0));
        checks.fails("9 the 41st, and wrong", x, ARGUMENT, () -> x.same(0, 6));
    }

    private void promise10Not() {
        Thimble x = graph();
        checks.fails("10 of none", x, INDEX, () -> x.not(0));
        x.atom(1, 0, 0, 0);
        due("10 number", 1, () -> x.not(0));
        due("10 kind", 2, () -> x.ofFormula(1, 0));
        due("10 answers", "1 3", () -> rows(x, 1));
        checks.fails("10 itself", x, INDEX, () -> x.not(2));
        checks.fails("10 below", x, INDEX, () -> x.not(-1));
        for (int k = 2; k < 40; k++) {
            int at = k;
            due("10 not " + k, at, () -> x.not(at - 1));
        }
        checks.fails("10 the 41st", x, STATE, () -> x.not(0));
        checks.fails("10 the 41st, and of none", x, INDEX, () -> x.not(40));
        due("10 not, 39 times", "1 3", () -> rows(x, 39));
        longestIs40();
    }

    /** Formulas of the LENGTH 39 and 40, on which all that names them is tried. */
    private void longestIs40() {
        Thimble x = graph();
        x.atom(1, 0, 0, 0);
        x.join(true, 0, 0);
        x.join(true, 1, 1);
        x.join(true, 2, 2);
        x.join(true, 3, 3);
        x.join(true, 2, 0);
        x.join(false, 4, 2);
        due("11 of the length 39", "2 4", () -> rows(x, 6));
        x.not(6);
        due("10 of the length 40", "1 3", () -> rows(x, 7));
        checks.fails("10 too long", x, STATE, () -> x.not(7));
        checks.fails("11 too long", x, STATE, () -> x.join(true, 6, 0));
        checks.fails("12 too long", x, STATE, () -> x.bind(true, 0, 7));
        checks.fails("12 too long, and no variable", x, ARGUMENT, () -> x.bind(true, 6, 7));
        due("12 of the length 40", 8, () -> x.bind(true, 0, 6));
        due("11 of the length 39, once more", 9, () -> x.join(true, 4, 2));
        due("11 of the length 35", 10, () -> x.join(true, 4, 1));
        due("11 of the length 39, of others", 11, () -> x.join(false, 10, 1));
        x.not(2);
        due("11 of the length 40", 13, () -> x.join(false, 4, 12));
        checks.fails("11 of the length 41", x, STATE, () -> x.join(false, 6, 0));
    }

    private void promise11Join() {
        Thimble x = graph();
        x.atom(1, 0, 0, 0);
        x.same(0, 12);
        due("11 both", 2, () -> x.join(true, 0, 1));
        due("11 kind", 3, () -> x.ofFormula(2, 0));
        due("11 answers", "2", () -> rows(x, 2));
        x.same(0, 13);
        due("11 either", 4, () -> x.join(false, 0, 3));
        due("11 kind of either", 4, () -> x.ofFormula(4, 0));
        due("11 answers of either", "2 3 4", () -> rows(x, 4));
        x.join(true, 3, 0);
        due("11 no answers", "", () -> rows(x, 5));
        checks.fails("11 no a", x, INDEX, () -> x.join(true, 6, 0));
        checks.fails("11 a below", x, INDEX, () -> x.join(true, -1, 0));
        checks.fails("11 no b", x, INDEX, () -> x.join(false, 0, 6));
        checks.fails("11 b below", x, INDEX, () -> x.join(false, 0, LEAST));
        for (int k = 6; k < 40; k++) {
            x.same(0, 0);
        }
        checks.fails("11 the 41st", x, STATE, () -> x.join(true, 0, 0));
        checks.fails("11 the 41st, and of none", x, INDEX, () -> x.join(true, 0, 40));
    }

    private void promise12Bind() {
        Thimble x = graph();
        checks.fails("12 of none, and no variable", x, INDEX, () -> x.bind(true, 6, 0));
        x.atom(0, 0, 1, 0);
        due("12 some", 1, () -> x.bind(true, 1, 0));
        due("12 kind of some", 5, () -> x.ofFormula(1, 0));
        due("12 answers of some", "1 2 3", () -> rows(x, 1));
        due("12 every", 2, () -> x.bind(false, 1, 0));
        due("12 kind of every", 6, () -> x.ofFormula(2, 0));
        due("12 answers of every", "", () -> rows(x, 2));
        x.bind(true, 0, 0);
        due("12 answers of some for the first", "1 2 3 4", () -> rows(x, 3));
        checks.fails("12 no variable", x, ARGUMENT, () -> x.bind(true, 6, 0));
        checks.fails("12 a value", x, ARGUMENT, () -> x.bind(true, 10, 0));
        checks.fails("12 below", x, ARGUMENT, () -> x.bind(false, -1, 0));
        checks.fails("12 no formula", x, INDEX, () -> x.bind(false, 0, 4));
        checks.fails("12 formula below", x, INDEX, () -> x.bind(false, 0, -1));
        x.bind(false, 5, 3);
        x.not(4);
        x.bind(true, 5, 5);
        due("12 depth 3", 3, () -> x.ofFormula(6, 2));
        checks.fails("12 depth 4", x, ARGUMENT, () -> x.bind(true, 0, 6));
        for (int k = 7; k < 40; k++) {
            x.same(0, 0);
        }
        checks.fails("12 the 41st", x, STATE, () -> x.bind(true, 0, 0));
        checks.fails("12 the 41st, and depth 4", x, ARGUMENT, () -> x.bind(true, 0, 6));
    }

    private void promise13Formulas() {
        Thimble x = graph();
        x.atom(0, 0, 1, 0);
        x.same(0, 0);
        x.not(0);
        x.join(true, 0, 1);
        x.bind(true, 0, 0);
        due("13 formulas", 5, x::formulas);
    }

    private void promise14OfFormula() {
        Thimble x = graph();
        x.atom(0, 0, 3, 5);
        x.atom(1, 17, 0, 0);
        x.join(false, 0, 1);
        x.bind(false, 3, 2);
        x.bind(true, 2, 3);
        x.join(true, 4, 1);
        x.not(5);
        int[] kinds = {0, 0, 4, 6, 5, 3, 2};
        int[] free = {9, 0, 9, 1, 1, 1, 1};
        int[] depths = {0, 0, 0, 1, 2, 2, 2};
        int[] domains = {30, 158, 158, 158, 158, 158, 158};
        for (int k = 0; k < 7; k++) {
            int f = k;
            due("14 kind " + f, kinds[f], () -> x.ofFormula(f, 0));
            due("14 free " + f, free[f], () -> x.ofFormula(f, 1));
            due("14 depth " + f, depths[f], () -> x.ofFormula(f, 2));
            due("14 domain " + f, domains[f], () -> x.ofFormula(f, 5));
        }
        x.join(true, 0, 4);
        due("14 depth of b", 2, () -> x.ofFormula(7, 2));
        x.fact(1, 0, 0, 0);
        due("14 the domain is what it is now", 31, () -> x.ofFormula(0, 5));
        checks.fails("14 what 6", x, ARGUMENT, () -> x.ofFormula(0, 6));
        checks.fails("14 what -1", x, ARGUMENT, () -> x.ofFormula(0, -1));
        checks.fails("14 no formula", x, INDEX, () -> x.ofFormula(8, 6));
        checks.fails("14 below", x, INDEX, () -> x.ofFormula(-1, 0));
    }

    private void upAndDown(Thimble x, int formula, int up, int down) {
        due("14 up of " + formula, up, () -> x.ofFormula(formula, 3));
        due("14 down of " + formula, down, () -> x.ofFormula(formula, 4));
    }

    private void promise14BoundUpAndDown() {
        Thimble x = graph();
        upAndDown(x, x.atom(0, 0, 1, 0), 3, 0);
        upAndDown(x, x.same(2, 15), 4, 0);
        upAndDown(x, x.same(15, 2), 4, 0);
        upAndDown(x, x.same(1, 2), 0, 0);
        upAndDown(x, x.same(12, 12), 0, 0);
        upAndDown(x, x.not(0), 0, 3);
        upAndDown(x, x.not(1), 0, 4);
        upAndDown(x, x.not(5), 3, 0);
        upAndDown(x, x.join(true, 0, 1), 7, 0);
        upAndDown(x, x.join(true, 0, 3), 7, 0);
        upAndDown(x, x.join(true, 3, 0), 7, 0);
        upAndDown(x, x.join(true, 3, 3), 0, 0);
        upAndDown(x, x.join(true, 5, 6), 0, 0);
        upAndDown(x, x.join(true, 5, 5), 0, 3);
        upAndDown(x, x.join(false, 0, 1), 0, 0);
        upAndDown(x, x.join(false, 0, 8), 3, 0);
        upAndDown(x, x.join(false, 0, 3), 0, 0);
        upAndDown(x, x.join(false, 5, 6), 0, 7);
        upAndDown(x, x.bind(true, 1, 0), 1, 0);
        upAndDown(x, x.bind(true, 1, 5), 0, 0);
        upAndDown(x, x.bind(false, 1, 0), 0, 0);
        upAndDown(x, x.bind(false, 1, 5), 0, 1);
        upAndDown(x, x.bind(true, 4, 0), 3, 0);
        upAndDown(x, x.same(4, 5), 0, 0);
        upAndDown(x, x.join(true, 0, 23), 3, 0);
        upAndDown(x, x.same(4, 13), 16, 0);
        upAndDown(x, x.join(true, 23, 25), 48, 0);
        upAndDown(x, x.not(23), 0, 0);
        upAndDown(x, x.not(3), 0, 0);
        upAndDown(x, x.join(true, 28, 0), 3, 0);
    }

    private void promise15IsSafe() {
        Thimble x = graph();
        x.atom(0, 0, 1, 0);
        due("15 atom", true, () -> x.isSafe(0));
        x.not(0);
        due("15 not", false, () -> x.isSafe(1));
        x.not(1);
        due("15 not not", true, () -> x.isSafe(2));
        x.same(0, 1);
        due("15 same of two variables", false, () -> x.isSafe(3));
        x.same(10, 11);
        due("15 nothing free", true, () -> x.isSafe(4));
        x.bind(true, 5, 0);
        due("15 some of what is not there", false, () -> x.isSafe(5));
        x.not(5);
        x.join(true, 6, 0);
        due("15 something loose deep in it", false, () -> x.isSafe(7));
        x.bind(false, 0, 1);
        due("15 every, but free and not up", false, () -> x.isSafe(8));
        x.bind(false, 1, 8);
        due("15 every of both", true, () -> x.isSafe(9));
        x.bind(true, 1, 1);
        due("15 some over not", false, () -> x.isSafe(10));
        checks.fails("15 no formula", x, INDEX, () -> x.isSafe(11));
        checks.fails("15 below", x, INDEX, () -> x.isSafe(-1));
    }

    private void promise16Loose() {
        Thimble x = graph();
        x.atom(0, 0, 1, 0);
        due("16 none", -1, () -> x.loose(0));
        x.bind(false, 0, 0);
        due("16 every over an atom", 1, () -> x.loose(1));
        x.bind(true, 0, 0);
        due("16 some over an atom", -1, () -> x.loose(2));
        x.bind(true, 3, 0);
        due("16 some of another", 3, () -> x.loose(3));
        x.join(true, 3, 1);
        due("16 the smallest, named as b", 1, () -> x.loose(4));
        x.join(false, 1, 3);
        due("16 the smallest, named as a", 1, () -> x.loose(5));
        x.join(false, 0, 3);
        due("16 in b alone", 3, () -> x.loose(6));
        x.not(6);
        x.bind(false, 5, 7);
        due("16 itself, and one in it", 3, () -> x.loose(8));
        x.not(0);
        due("16 free and not up is not loose", -1, () -> x.loose(9));
        checks.fails("16 no formula", x, INDEX, () -> x.loose(10));
        checks.fails("16 below", x, INDEX, () -> x.loose(-1));
    }

    private void promise17Answers() {
        Thimble x = graph();
        x.relation(3);
        x.fact(2, 1, 1, 3);
        x.fact(2, 1, 2, 1);
        x.fact(2, 4, 4, 4);
        x.atom(2, 0, 0, 1);
        due("17 twice the same variable", "13 44", () -> rows(x, 0));
        x.atom(2, 3, 4, 3);
        due("17 the first and the third", "12 44", () -> rows(x, 1));
        x.atom(2, 2, 2, 2);
        due("17 three times", "4", () -> rows(x, 2));
        x.atom(2, 5, 12, 0);
        due("17 a value within", "11", () -> rows(x, 3));
        x.atom(2, 14, 14, 14);
        due("17 values alone", 1, () -> x.answers(4));
        x.atom(2, 14, 14, 13);
        due("17 values alone, no fact", 0, () -> x.answers(5));
        x.same(0, 17);
        due("17 a value of no fact is in the domain", "7", () -> rows(x, 6));
        x.atom(0, 0, 1, 0);
        x.not(7);
        x.bind(false, 1, 8);
        due("17 who has no edge out", "4", () -> rows(x, 9));
        x.atom(0, 1, 2, 0);
        x.join(true, 7, 10);
        x.bind(true, 1, 11);
        due("17 two steps", "13 21 24 32", () -> rows(x, 12));
        x.join(false, 7, 10);
        due("17 three free", 4 * 4 + 4 * 4 - 4, () -> x.answers(13));
        x.atom(0, 3, 4, 0);
        x.join(true, 7, 14);
        checks.fails("17 four free", x, STATE, () -> x.answers(15));
        x.bind(true, 4, 15);
        due("17 three free again", "121 122 123 231 232 233 311 312 313 341 342 343", () -> rows(x, 16));
        checks.fails("17 no formula", x, INDEX, () -> x.answers(17));
        checks.fails("17 below", x, INDEX, () -> x.answers(-1));
    }

    private void promise17EmptyDomain() {
        Thimble x = new Thimble();
        x.relation(1);
        x.atom(0, 0, 0, 0);
        x.bind(true, 0, 0);
        x.bind(false, 0, 0);
        x.not(0);
        x.same(3, 3);
        x.bind(true, 3, 4);
        x.bind(false, 3, 4);
        x.same(1, 1);
        x.bind(true, 1, 7);
        x.not(4);
        x.bind(false, 3, 9);
        due("17 an atom without a domain", 0, () -> x.answers(0));
        due("17 some without a domain", 0, () -> x.answers(1));
        due("17 every without a domain", 1, () -> x.answers(2));
        due("17 not without a domain", 0, () -> x.answers(3));
        due("17 same without a domain", 0, () -> x.answers(4));
        due("17 some 3 without a domain", 0, () -> x.answers(5));
        due("17 every 3 without a domain", 1, () -> x.answers(6));
        due("17 some 1 without a domain", 0, () -> x.answers(8));
        due("17 every 3 not without a domain", 1, () -> x.answers(10));
        x.same(0, 15);
        x.not(11);
        due("17 the domain of what is named", 0, () -> x.answers(12));
        x.not(12);
        due("17 and what is in it", "5", () -> rows(x, 13));
    }

    /** The DOMAIN is that of the whole FORMULA, and the VALUES stand in the order of the VARIABLES. */
    private void promise17OrderOfVariables() {
        Thimble x = graph();
        x.atom(0, 1, 0, 0);
        due("17 the first variable first", "13 21 32 43", () -> rows(x, 0));
        x.atom(0, 5, 3, 0);
        due("17 also of 3 and 5", "13 21 32 43", () -> rows(x, 1));
        x.atom(0, 4, 1, 0);
        due("17 also of 1 and 4", "13 21 32 43", () -> rows(x, 2));
        x.atom(0, 2, 0, 0);
        due("17 also of 0 and 2", "13 21 32 43", () -> rows(x, 3));
        x.same(0, 0);
        x.bind(false, 0, 4);
        x.atom(1, 0, 0, 0);
        x.not(6);
        x.bind(true, 2, 7);
        x.same(10, 10);
        x.join(true, 7, 9);
        due("17 the value 0 is in the domain of the whole", "0 1 3", () -> rows(x, 10));
        x.same(0, 2);
        x.not(11);
        x.bind(true, 2, 12);
        x.bind(false, 0, 13);
        due("17 there are two", 1, () -> x.answers(14));
        x.atom(1, 3, 0, 0);
        x.bind(false, 3, 15);
        x.same(16, 16);
        x.join(false, 16, 17);
        x.not(16);
        due("17 not every value is marked", 1, () -> x.answers(19));
    }

    private void promise17Shadowing() {
        Thimble x = graph();
        for (int v : new int[] {0, 1, 2, 5}) {
            int edge = x.atom(0, v, v == 0 ? 3 : 0, 0);
            int some = x.bind(true, v, edge);
            int mark = x.atom(1, v, 0, 0);
            int both = x.join(true, some, mark);
            int again = x.bind(true, v, both);
            int other = x.join(true, mark, some);
            due("17 v " + v + " outside is another one", v == 0 ? 9 : 1 + (1 << v), () -> x.ofFormula(both, 1));
            due("17 v " + v + " bound twice", "1 2 3 4", () -> rows(x, again));
            due("17 v " + v + " both ways", 8, () -> x.answers(other));
            due("17 v " + v + " both ways, in order", rows(x, other), () -> rows(x, both));
        }
    }

    /** SOME and EVERY for each VARIABLE: who is beside all marked ones, and who is beside one. */
    private void promise17EachVariable() {
        for (int k = 0; k < 6; k++) {
            int v = k;
            int other = (k + 1) % 6;
            Thimble x = new Thimble();
            x.relation(2);
            x.relation(1);
            x.fact(1, 0, 0, 0);
            x.fact(1, 3, 0, 0);
            x.fact(0, 0, 0, 0);
            x.fact(0, 0, 3, 0);
            x.fact(0, 3, 0, 0);
            x.fact(0, 5, 3, 0);
            x.fact(0, 6, 6, 0);
            int edge = x.atom(0, other, v, 0);
            int mark = x.atom(1, v, 0, 0);
            int every = x.bind(false, v, x.join(false, x.not(mark), edge));
            int some = x.bind(true, v, x.join(true, mark, edge));
            int beside = x.join(true, some, x.not(every));
            due("17 every " + v, "0", () -> rows(x, every));
            due("17 some " + v, "0 3 5", () -> rows(x, some));
            due("17 some, not every " + v, "3 5", () -> rows(x, beside));
            int alone = x.bind(true, v, x.join(true, x.not(mark), x.bind(false, other, edge)));
            due("17 every within some " + v, 0, () -> x.answers(alone));
            int bound = x.join(true, x.bind(false, v, x.same(v, v)), mark);
            due("17 every " + v + " beside a free one", "0 3", () -> rows(x, bound));
        }
    }

    private void promise18Answer() {
        Thimble x = graph();
        x.atom(0, 0, 1, 0);
        due("18 first", 1, () -> x.answer(0, 0, 0));
        due("18 last", 4, () -> x.answer(0, 3, 1));
        checks.fails("18 past the last", x, INDEX, () -> x.answer(0, 4, 9));
        checks.fails("18 below", x, INDEX, () -> x.answer(0, -1, 0));
        checks.fails("18 no formula", x, INDEX, () -> x.answer(1, 0, 0));
        checks.fails("18 formula below", x, INDEX, () -> x.answer(-1, 0, 0));
        checks.fails("18 which", x, ARGUMENT, () -> x.answer(0, 0, 2));
        checks.fails("18 which below", x, ARGUMENT, () -> x.answer(0, 0, -1));
        x.atom(0, 2, 3, 0);
        x.join(true, 0, 1);
        checks.fails("18 four free", x, STATE, () -> x.answer(2, 0, 0));
        checks.fails("18 four free, and no such answer", x, STATE, () -> x.answer(2, -1, 0));
        checks.fails("18 four free, and no such value", x, STATE, () -> x.answer(2, 0, -1));
        x.bind(true, 0, 0);
        x.bind(true, 1, 3);
        checks.fails("18 the empty row has no value", x, ARGUMENT, () -> x.answer(4, 0, 0));
        checks.fails("18 there is but one empty row", x, INDEX, () -> x.answer(4, 1, 0));
    }

    private void promise19Rule() {
        Thimble x = graph();
        for (int many : new int[] {-1, 4, LEAST, MOST}) {
            checks.fails("19 many " + many, x, ARGUMENT, () -> x.rule(many, 0, 0, 0));
        }
        for (int wrong : new int[] {-1, 6, 9, 18}) {
            checks.fails("19 t " + wrong, x, ARGUMENT, () -> x.rule(1, wrong, 0, 0));
            checks.fails("19 u " + wrong, x, ARGUMENT, () -> x.rule(2, 0, wrong, 0));
            checks.fails("19 v " + wrong, x, ARGUMENT, () -> x.rule(3, 0, 0, wrong));
        }
        due("19 nothing looked at", 0, () -> x.rule(0, 99, 99, 99));
        due("19 one looked at", 1, () -> x.rule(1, 17, 99, 99));
        due("19 two looked at", 2, () -> x.rule(2, 17, 5, 99));
        due("19 three looked at", 3, () -> x.rule(3, 17, 5, 10));
        for (int k = 4; k < 8; k++) {
            x.rule(0, 0, 0, 0);
        }
        checks.fails("19 the ninth", x, STATE, () -> x.rule(0, 0, 0, 0));
        checks.fails("19 the ninth, and wrong", x, ARGUMENT, () -> x.rule(4, 0, 0, 0));
        checks.fails("19 the ninth, and no term", x, ARGUMENT, () -> x.rule(1, 8, 0, 0));
    }

    private void promise20Add() {
        Thimble x = graph();
        x.relation(3);
        checks.fails("20 no rule", x, INDEX, () -> x.add(0, 0, 0, 0, 0));
        x.rule(0, 0, 0, 0);
        due("20 one place", 1, () -> x.add(0, 1, 5, 99, 99));
        due("20 two places", 2, () -> x.add(0, 0, 5, 17, 99));
        due("20 three places", 3, () -> x.add(0, 2, 5, 17, 10));
        checks.fails("20 rule below", x, INDEX, () -> x.add(-1, 0, 0, 0, 0));
        checks.fails("20 rule past", x, INDEX, () -> x.add(1, 0, 9, 0, 0));
        checks.fails("20 relation below", x, INDEX, () -> x.add(0, -1, 0, 0, 0));
        checks.fails("20 relation past", x, INDEX, () -> x.add(0, 3, 9, 0, 0));
        for (int wrong : new int[] {-1, 6, 9, 18}) {
            checks.fails("20 t " + wrong, x, ARGUMENT, () -> x.add(0, 1, wrong, 0, 0));
            checks.fails("20 u " + wrong, x, ARGUMENT, () -> x.add(0, 0, 0, wrong, 0));
            checks.fails("20 v " + wrong, x, ARGUMENT, () -> x.add(0, 2, 0, 0, wrong));
        }
        x.add(0, 1, 5, 0, 0);
        due("20 the fifth, as before", 5, () -> x.add(0, 1, 5, 0, 0));
        checks.fails("20 the sixth", x, STATE, () -> x.add(0, 1, 5, 0, 0));
        checks.fails("20 the sixth, and wrong", x, ARGUMENT, () -> x.add(0, 1, 8, 0, 0));
    }

    private void promise21Rules() {
        Thimble x = graph();
        x.rule(0, 0, 0, 0);
        x.rule(0, 0, 0, 0);
        due("21 rules", 2, x::rules);
    }

    private void promise22OfRule() {
        Thimble x = graph();
        x.rule(2, 0, 1, 0);
        due("22 no atoms", 0, () -> x.ofRule(0, 0));
        due("22 not grounded", 0, () -> x.ofRule(0, 1));
        due("22 nothing to shorten", 0, () -> x.ofRule(0, 2));
        x.add(0, 0, 0, 2, 0);
        due("22 not grounded with one of two", 0, () -> x.ofRule(0, 1));
        x.add(0, 0, 2, 1, 0);
        due("22 grounded", 1, () -> x.ofRule(0, 1));
        x.add(0, 0, 0, 3, 0);
        due("22 three atoms", 3, () -> x.ofRule(0, 0));
        due("22 two, if shortened", 2, () -> x.ofRule(0, 2));
        due("22 it is not shortened by that", 3, () -> x.ofRule(0, 0));
        x.rule(3, 10, 11, 12);
        due("22 values are grounded", 1, () -> x.ofRule(1, 1));
        checks.fails("22 what 3", x, ARGUMENT, () -> x.ofRule(0, 3));
        checks.fails("22 what -1", x, ARGUMENT, () -> x.ofRule(0, -1));
        checks.fails("22 no rule", x, INDEX, () -> x.ofRule(2, 9));
        checks.fails("22 below", x, INDEX, () -> x.ofRule(-1, 0));
    }

    private void promise23Tells() {
        Thimble x = graph();
        x.rule(2, 2, 0, 0);
        checks.fails("23 not grounded", x, STATE, () -> x.tells(0));
        x.add(0, 0, 0, 1, 0);
        x.add(0, 0, 1, 2, 0);
        due("23 two steps, turned round", "12 23 31 42", () -> rowsOfRule(x, 0, 2));
        x.rule(1, 1, 0, 0);
        x.add(1, 0, 0, 1, 0);
        x.add(1, 0, 2, 3, 0);
        due("23 each row once", "1 2 3 4", () -> rowsOfRule(x, 1, 1));
        x.rule(3, 15, 0, 0);
        x.add(2, 1, 0, 0, 0);
        due("23 a value and one twice", "522 544", () -> rowsOfRule(x, 2, 3));
        x.rule(0, 0, 0, 0);
        due("23 nothing to hold: the empty row", 1, () -> x.tells(3));
        x.add(3, 0, 0, 0, 0);
        due("23 no edge to itself", 0, () -> x.tells(3));
        x.fact(0, 0, 0, 0);
        due("23 an edge to itself", 1, () -> x.tells(3));
        x.rule(1, 16, 0, 0);
        due("23 a head of values", "6", () -> rowsOfRule(x, 4, 1));
        x.add(4, 0, 11, 12, 0);
        due("23 an atom of values holds", "6", () -> rowsOfRule(x, 4, 1));
        x.add(4, 0, 12, 11, 0);
        due("23 an atom of values does not hold", 0, () -> x.tells(4));
        x.relation(2);
        x.fact(2, 0, 1, 0);
        x.fact(2, 0, 5, 0);
        x.fact(2, 1, 0, 0);
        x.rule(2, 5, 4, 0);
        x.add(5, 2, 4, 5, 0);
        x.add(5, 2, 5, 3, 0);
        x.add(5, 2, 4, 3, 0);
        x.fact(2, 1, 5, 0);
        due("23 with the value 0", "01 10", () -> rowsOfRule(x, 5, 2));
        checks.fails("23 no rule", x, INDEX, () -> x.tells(6));
        checks.fails("23 rule below", x, INDEX, () -> x.tells(-1));
    }

    private void promise24Row() {
        Thimble x = graph();
        x.rule(2, 1, 0, 0);
        checks.fails("24 not grounded", x, STATE, () -> x.row(0, 0, 0));
        checks.fails("24 not grounded, and no row", x, STATE, () -> x.row(0, -1, -1));
        x.add(0, 0, 0, 1, 0);
        due("24 first", 1, () -> x.row(0, 0, 0));
        due("24 first, second value", 3, () -> x.row(0, 0, 1));
        due("24 last", 4, () -> x.row(0, 3, 0));
        checks.fails("24 past the last", x, INDEX, () -> x.row(0, 4, 9));
        checks.fails("24 below", x, INDEX, () -> x.row(0, -1, 0));
        checks.fails("24 which", x, ARGUMENT, () -> x.row(0, 0, 2));
        checks.fails("24 which below", x, ARGUMENT, () -> x.row(0, 0, -1));
        checks.fails("24 no rule", x, INDEX, () -> x.row(1, 0, 0));
        checks.fails("24 rule below", x, INDEX, () -> x.row(-1, 0, 0));
        x.rule(0, 0, 0, 0);
        checks.fails("24 the empty row has no value", x, ARGUMENT, () -> x.row(1, 0, 0));
    }

    private void ordered(Thimble x, int rule, String want) {
        StringBuilder got = new StringBuilder();
        for (int k = 0; k < x.ofRule(rule, 0); k++) {
            got.append(x.order(rule, k, 0));
        }
        due("25 order of " + rule, want, got::toString);
    }

    private void promise25Order() {
        Thimble x = graph();
        x.relation(3);
        x.rule(0, 0, 0, 0);
        x.add(0, 0, 0, 1, 0);
        x.add(0, 1, 1, 0, 0);
        ordered(x, 0, "10");
        x.add(0, 0, 13, 2, 0);
        ordered(x, 0, "210");
        x.add(0, 0, 11, 12, 0);
        ordered(x, 0, "3210");
        x.add(0, 0, 2, 2, 0);
        ordered(x, 0, "32410");
        x.rule(0, 0, 0, 0);
        x.add(1, 0, 0, 1, 0);
        x.add(1, 0, 2, 3, 0);
        x.add(1, 2, 4, 4, 4);
        ordered(x, 1, "201");
        fill(x, 2, 4);
        ordered(x, 1, "012");
        x.rule(0, 0, 0, 0);
        x.add(2, 1, 0, 0, 0);
        x.add(2, 0, 0, 12, 0);
        x.add(2, 2, 3, 3, 11);
        ordered(x, 2, "102");
        checks.fails("25 past", x, INDEX, () -> x.order(1, 3, 5));
        checks.fails("25 below", x, INDEX, () -> x.order(1, -1, 0));
        checks.fails("25 no rule", x, INDEX, () -> x.order(3, 0, 0));
        checks.fails("25 rule below", x, INDEX, () -> x.order(-1, 0, 0));
        checks.fails("25 what 2", x, ARGUMENT, () -> x.order(1, 0, 2));
        checks.fails("25 what -1", x, ARGUMENT, () -> x.order(1, 0, -1));
        x.rule(0, 0, 0, 0);
        checks.fails("25 no atoms", x, INDEX, () -> x.order(3, 0, 0));
    }

    private void sized(Thimble x, int rule, int... want) {
        for (int k = 0; k < want.length; k++) {
            int place = k;
            due("25 size " + place + " of " + rule, want[place], () -> x.order(rule, place, 1));
        }
    }

    private void promise25Sizes() {
        Thimble x = graph();
        x.rule(1, 5, 0, 0);
        x.add(0, 0, 0, 1, 0);
        sized(x, 0, 4);
        x.add(0, 0, 1, 2, 0);
        sized(x, 0, 4, 4);
        x.add(0, 0, 3, 4, 0);
        sized(x, 0, 4, 4, 16);
        x.add(0, 1, 3, 0, 0);
        x.add(0, 0, 11, 12, 0);
        sized(x, 0, 1, 2, 1, 4, 4);
        x.rule(0, 0, 0, 0);
        x.add(1, 0, 0, 0, 0);
        x.add(1, 0, 1, 2, 0);
        sized(x, 1, 0, 0);
        x.fact(0, 7, 7, 0);
        sized(x, 1, 1, 5);
        x.rule(0, 0, 0, 0);
        x.add(2, 0, 17, 11, 0);
        x.add(2, 1, 0, 0, 0);
        sized(x, 2, 0, 0);
    }

    private void promise26IsWithin() {
        Thimble x = graph();
        x.rule(2, 0, 2, 0);
        x.add(0, 0, 0, 1, 0);
        x.add(0, 0, 1, 2, 0);
        x.rule(2, 3, 3, 0);
        x.add(1, 0, 3, 4, 0);
        x.add(1, 0, 4, 3, 0);
        due("26 there and back is two steps", true, () -> x.isWithin(1, 0));
        due("26 two steps are not there and back", false, () -> x.isWithin(0, 1));
        due("26 itself", true, () -> x.isWithin(0, 0));
        x.rule(1, 0, 0, 0);
        x.add(2, 0, 0, 1, 0);
        due("26 heads of other sizes", false, () -> x.isWithin(0, 2));
        x.rule(1, 12, 0, 0);
        x.add(3, 0, 12, 13, 0);
        due("26 a variable becomes a value", true, () -> x.isWithin(3, 2));
        due("26 a value stays", false, () -> x.isWithin(2, 3));
        x.rule(1, 5, 0, 0);
        due("26 no atoms: all of q become one of p", true, () -> x.isWithin(4, 4));
        due("26 a head variable in no atom stays", false, () -> x.isWithin(3, 4));
        x.rule(1, 5, 0, 0);
        x.add(5, 1, 5, 0, 0);
        due("26 it may stay as it is", true, () -> x.isWithin(5, 4));
        due("26 the other relation", false, () -> x.isWithin(5, 2));
        due("26 nothing to become", false, () -> x.isWithin(4, 5));
        x.rule(0, 0, 0, 0);
        x.add(6, 0, 0, 1, 0);
        x.add(6, 0, 1, 2, 0);
        x.add(6, 0, 2, 0, 0);
        x.rule(0, 0, 0, 0);
        x.add(7, 0, 0, 1, 0);
        x.add(7, 0, 1, 0, 0);
        due("26 no triangle in a pair", false, () -> x.isWithin(7, 6));
        x.add(7, 0, 3, 3, 0);
        due("26 all become the same one", true, () -> x.isWithin(7, 6));
        checks.fails("26 no p", x, INDEX, () -> x.isWithin(8, 0));
        checks.fails("26 no q", x, INDEX, () -> x.isWithin(0, 8));
        checks.fails("26 p below", x, INDEX, () -> x.isWithin(-1, 0));
        checks.fails("26 q below", x, INDEX, () -> x.isWithin(0, -1));
    }

    private void promise27Image() {
        Thimble x = graph();
        x.rule(1, 0, 0, 0);
        x.add(0, 0, 0, 1, 0);
        x.add(0, 0, 1, 2, 0);
        x.rule(1, 3, 0, 0);
        x.add(1, 0, 3, 4, 0);
        x.add(1, 0, 3, 15, 0);
        x.add(1, 0, 15, 5, 0);
        due("27 of the head", 3, () -> x.image(1, 0, 0));
        due("27 the first one with which it goes on", 15, () -> x.image(1, 0, 1));
        due("27 and on", 5, () -> x.image(1, 0, 2));
        due("27 in no atom", -1, () -> x.image(1, 0, 3));
        due("27 no map", -1, () -> x.image(0, 1, 3));
        x.rule(0, 0, 0, 0);
        x.add(2, 0, 4, 5, 0);
        x.rule(0, 0, 0, 0);
        x.add(3, 1, 0, 0, 0);
        x.add(3, 0, 16, 2, 0);
        x.add(3, 0, 1, 1, 0);
        due("27 the first one", 16, () -> x.image(3, 2, 4));
        due("27 the first one, too", 2, () -> x.image(3, 2, 5));
        x.rule(1, 5, 0, 0);
        due("27 in the head alone", -1, () -> x.image(4, 4, 5));
        checks.fails("27 no variable", x, ARGUMENT, () -> x.image(0, 0, 6));
        checks.fails("27 variable below", x, ARGUMENT, () -> x.image(0, 0, -1));
        checks.fails("27 no p", x, INDEX, () -> x.image(5, 0, 6));
        checks.fails("27 no q", x, INDEX, () -> x.image(0, 5, 0));
        checks.fails("27 p below", x, INDEX, () -> x.image(-1, 0, 0));
        checks.fails("27 q below", x, INDEX, () -> x.image(0, -1, 0));
    }

    private void promise28Shorten() {
        Thimble x = graph();
        x.rule(1, 0, 0, 0);
        x.add(0, 0, 0, 1, 0);
        x.add(0, 0, 0, 2, 0);
        x.add(0, 1, 2, 0, 0);
        due("28 the first one goes", 1, () -> x.shorten(0));
        due("28 two are left", 2, () -> x.ofRule(0, 0));
        due("28 the second one stays", 2, () -> x.image(0, 0, 2));
        due("28 the variable 1 is gone", -1, () -> x.image(0, 0, 1));
        due("28 again", 0, () -> x.shorten(0));
        x.rule(0, 0, 0, 0);
        x.add(1, 1, 0, 0, 0);
        x.add(1, 1, 1, 0, 0);
        x.add(1, 1, 2, 0, 0);
        x.add(1, 1, 14, 0, 0);
        x.add(1, 1, 14, 0, 0);
        due("28 all but one", 4, () -> x.shorten(1));
        x.rule(0, 0, 0, 0);
        x.add(2, 0, 3, 4, 0);
        x.add(1, 0, 0, 5, 0);
        due("28 the value is left", true, () -> x.isWithin(1, 2));
        x.rule(1, 5, 0, 0);
        due("28 nothing to take away", 0, () -> x.shorten(3));
        x.rule(2, 0, 1, 0);
        x.add(4, 0, 0, 2, 0);
        x.add(4, 0, 1, 3, 0);
        due("28 the head holds them", 0, () -> x.shorten(4));
        checks.fails("28 no rule", x, INDEX, () -> x.shorten(5));
        checks.fails("28 below", x, INDEX, () -> x.shorten(-1));
    }

    private void promise29Translate() {
        Thimble x = graph();
        x.rule(1, 0, 0, 0);
        x.add(0, 0, 0, 1, 0);
        x.add(0, 0, 1, 3, 0);
        x.add(0, 1, 3, 0, 0);
        x.same(0, 0);
        due("29 number of the last", 7, () -> x.translate(0));
        due("29 formulas", 8, x::formulas);
        int[] kinds = {1, 0, 0, 0, 3, 3, 5, 5};
        int[] free = {1, 3, 10, 8, 11, 11, 3, 1};
        for (int k = 0; k < 8; k++) {
            int f = k;
            due("29 kind " + f, kinds[f], () -> x.ofFormula(f, 0));
            due("29 free " + f, free[f], () -> x.ofFormula(f, 1));
        }
        due("29 the same rows", rowsOfRule(x, 0, 1), () -> rows(x, 7));
        x.rule(1, 0, 0, 0);
        x.add(1, 1, 0, 0, 0);
        due("29 a single atom", 8, () -> x.translate(1));
        x.shorten(0);
        x.drop(0, 0);
        due("29 the formulas stay", "2", () -> rows(x, 7));
        x.rule(2, 2, 0, 0);
        x.add(2, 0, 0, 1, 0);
        x.add(2, 0, 1, 2, 0);
        due("29 bound but the head", 12, () -> x.translate(2));
        due("29 by the order of the variables", "21 24", () -> rows(x, 12));
        due("29 the rule's own order", "12 42", () -> rowsOfRule(x, 2, 2));
    }

    private void promise29TranslateRefused() {
        Thimble x = graph();
        x.rule(0, 0, 0, 0);
        checks.fails("29 no atoms", x, STATE, () -> x.translate(0));
        x.add(0, 0, 0, 1, 0);
        x.add(0, 0, 2, 3, 0);
        checks.fails("29 four to bind", x, STATE, () -> x.translate(0));
        x.rule(1, 5, 0, 0);
        x.add(1, 0, 0, 1, 0);
        checks.fails("29 not grounded", x, STATE, () -> x.translate(1));
        x.rule(1, 3, 0, 0);
        x.add(2, 0, 0, 1, 0);
        x.add(2, 0, 2, 3, 0);
        due("29 three to bind", 5, () -> x.translate(2));
        due("29 depth", 3, () -> x.ofFormula(5, 2));
        x.rule(0, 0, 0, 0);
        x.add(3, 0, 0, 5, 0);
        due("29 each variable bound", 8, () -> x.translate(3));
        due("29 nothing is free", 0, () -> x.ofFormula(8, 1));
        due("29 from the greatest on", 1, () -> x.ofFormula(7, 1));
        checks.fails("29 no rule", x, INDEX, () -> x.translate(4));
        checks.fails("29 below", x, INDEX, () -> x.translate(-1));
        for (int k = 9; k < 34; k++) {
            x.same(0, 0);
        }
        due("29 up to 40", 39, () -> x.translate(2));
        Thimble y = graph();
        y.rule(1, 3, 0, 0);
        y.add(0, 0, 0, 1, 0);
        y.add(0, 0, 2, 3, 0);
        for (int k = 0; k < 35; k++) {
            y.same(0, 0);
        }
        checks.fails("29 up to 41", y, STATE, () -> y.translate(0));
        due("29 nothing added", 35, y::formulas);
    }

    private void promise30AnswersWith() {
        Thimble x = graph();
        x.atom(0, 0, 1, 0);
        due("30 one more", 5, () -> x.answersWith(0, 0, 4, 1, 99));
        due("30 one less", 3, () -> x.answersWith(0, 0, 1, 2, 99));
        due("30 nothing is changed", 4, () -> x.answers(0));
        x.not(0);
        due("30 a greater domain", 5 * 5 - 5, () -> x.answersWith(1, 0, 7, 7, 0));
        due("30 a smaller domain", 3 * 3 - 3, () -> {
            x.drop(1, 1);
            return x.answersWith(1, 0, 3, 4, 0);
        });
        x.relation(3);
        fill(x, 2, 24);
        x.atom(2, 0, 1, 2);
        due("30 a 25th", 25, () -> x.answersWith(2, 2, 7, 7, 7));
        due("30 a 25th, first in order", 25, () -> x.answersWith(2, 2, 0, 3, 0));
        due("30 the 24th less", 23, () -> x.answersWith(2, 2, 0, 2, 7));
        due("30 24 as before", 24, () -> x.facts(2));
        checks.fails("30 no formula", x, INDEX, () -> x.answersWith(3, 0, 8, 0, 0));
        checks.fails("30 formula below", x, INDEX, () -> x.answersWith(-1, 0, 0, 0, 0));
        checks.fails("30 no relation", x, INDEX, () -> x.answersWith(0, 3, 8, 0, 0));
        checks.fails("30 relation below", x, INDEX, () -> x.answersWith(0, -1, 0, 0, 0));
        checks.fails("30 a", x, ARGUMENT, () -> x.answersWith(0, 1, 8, 0, 0));
        checks.fails("30 b", x, ARGUMENT, () -> x.answersWith(0, 0, 0, -1, 0));
        checks.fails("30 c", x, ARGUMENT, () -> x.answersWith(0, 2, 0, 0, MOST));
        x.atom(0, 2, 3, 0);
        x.join(false, 0, 3);
        checks.fails("30 four free", x, STATE, () -> x.answersWith(4, 0, 1, 2, 0));
        checks.fails("30 four free, and no value", x, ARGUMENT, () -> x.answersWith(4, 0, 8, 2, 0));
    }

    private void promise31Share() {
        Thimble x = new Thimble();
        x.relation(1);
        x.atom(0, 2, 0, 0);
        due("31 there could be none", 0.0, () -> x.share(0));
        x.bind(false, 2, 0);
        due("31 nothing free, and it holds", 1.0, () -> x.share(1));
        x.bind(true, 2, 0);
        due("31 nothing free, and it does not hold", 0.0, () -> x.share(2));
        x.relation(2);
        x.fact(1, 1, 2, 0);
        x.fact(1, 2, 0, 0);
        x.fact(0, 1, 0, 0);
        due("31 not cut", 1.0 / 3.0, () -> x.share(0));
        x.atom(1, 0, 4, 0);
        due("31 two free", 2.0 / 9.0, () -> x.share(3));
        x.atom(1, 4, 5, 0);
        x.join(true, 3, 4);
        due("31 three free", 1.0 / 27.0, () -> x.share(5));
        x.same(3, 16);
        due("31 with a value named", 0.25, () -> x.share(6));
        x.join(true, 5, 6);
        checks.fails("31 four free", x, STATE, () -> x.share(7));
        checks.fails("31 no formula", x, INDEX, () -> x.share(8));
        checks.fails("31 below", x, INDEX, () -> x.share(-1));
    }

    private static long digestOf(long... numbers) {
        long d = 58081;
        for (long n : numbers) {
            d = d * 31 + n;
        }
        return d;
    }

    private void promise32Digest() {
        Thimble x = new Thimble();
        due("32 of a new one", digestOf(0, 0, 0), x::digest);
        x.relation(2);
        x.relation(1);
        x.fact(0, 3, 1, 0);
        x.fact(0, 1, 2, 0);
        x.fact(1, 6, 0, 0);
        due("32 with facts", digestOf(2, 2, 1, 2, 3, 1, 1, 6, 0, 0), x::digest);
        x.atom(0, 0, 1, 0);
        x.same(2, 15);
        x.join(false, 0, 1);
        x.bind(true, 3, 1);
        due("32 with formulas", digestOf(2, 2, 1, 2, 3, 1, 1, 6,
                4, 0, 3, 0, 3, 0, 78, 1, -1, 2, 1, 4, 0, 4, 0, 110, 1, -1, 1, 4, 7, 0, 0, 0, 110, 0, -1,
                5, 4, 1, 4, 0, 110, 0, 3, 1, 0), x::digest);
        x.rule(1, 1, 0, 0);
        x.add(0, 0, 0, 1, 0);
        x.add(0, 0, 2, 1, 0);
        x.add(0, 1, 16, 0, 0);
        x.rule(1, 5, 0, 0);
        x.add(1, 1, 1, 0, 0);
        due("32 with rules", digestOf(2, 2, 1, 2, 3, 1, 1, 6,
                4, 0, 3, 0, 3, 0, 78, 1, -1, 2, 1, 4, 0, 4, 0, 110, 1, -1, 1, 4, 7, 0, 0, 0, 110, 0, -1,
                5, 4, 1, 4, 0, 110, 0, 3, 1,
                2, 3, 1, 2, 2, 2, 1, 0, 2, 1, 2, 1, 0, 1, 0, 1, 1, 0, 0, 1), x::digest);
        due("32 again", x.digest(), x::digest);
    }
}
