/** Objects to begin a test with: an empty one, a small one of each kind of thing, and one that is full. */
final class Made {
    static final Asker.Maker EMPTY = Thimble::new;
    static final Asker.Maker SMALL = Made::small;
    static final Asker.Maker FULL = Made::full;

    /** The RELATIONS of SMALL: MARK has the FACTS 2 and 4; EDGE 12, 23, 31 and 34; TRIPLE 113 and 123. */
    static final int MARK = 0;
    static final int EDGE = 1;
    static final int TRIPLE = 2;

    private Made() {
    }

    /** What another maker makes, and so many calls behind that. */
    static Asker.Maker then(Asker.Maker maker, Asker.Call... calls) {
        return () -> {
            Thimble x = maker.make();
            for (Asker.Call call : calls) {
                call.of(x);
            }
            return x;
        };
    }

    private static Thimble small() {
        Thimble x = new Thimble();
        x.relation(1);
        x.relation(2);
        x.relation(3);
        x.fact(MARK, 4, 0, 0);
        x.fact(MARK, 2, 0, 0);
        x.fact(EDGE, 3, 4, 0);
        x.fact(EDGE, 1, 2, 0);
        x.fact(EDGE, 3, 1, 0);
        x.fact(EDGE, 2, 3, 0);
        x.fact(TRIPLE, 1, 2, 3);
        x.fact(TRIPLE, 1, 1, 3);
        addSmallFormulas(x);
        addSmallRules(x);
        return x;
    }

    private static void addSmallFormulas(Thimble x) {
        x.atom(EDGE, 0, 1, 0);        // 0
        x.atom(MARK, 1, 0, 0);        // 1
        x.join(true, 0, 1);           // 2
        x.bind(true, 1, 2);           // 3: one free
        x.same(2, 15);                // 4: names a VALUE that is in no FACT
        x.not(4);                     // 5
        x.join(false, 0, 4);          // 6: three free, not SAFE
        x.bind(false, 0, 1);          // 7: LOOSE
        x.atom(EDGE, 2, 3, 0);        // 8
        x.join(true, 0, 8);           // 9: four free
        x.bind(true, 0, 9);           // 10: three free
        x.bind(true, 1, 10);          // 11
        x.bind(true, 2, 11);          // 12: DEPTH 3
        x.atom(TRIPLE, 0, 1, 2);      // 13
        x.bind(true, 0, 3);           // 14: none free, it HOLDS
        x.not(14);                    // 15: none free, it does not HOLD
    }

    private static void addSmallRules(Thimble x) {
        x.rule(2, 0, 2, 0);           // 0: two steps
        x.add(0, EDGE, 0, 1, 0);
        x.add(0, EDGE, 1, 2, 0);
        x.rule(1, 0, 0, 0);           // 1: its first ATOM can be taken away
        x.add(1, EDGE, 0, 1, 0);
        x.add(1, EDGE, 0, 2, 0);
        x.add(1, MARK, 2, 0, 0);
        x.rule(1, 5, 0, 0);           // 2: no ATOMS, not GROUNDED
        x.rule(0, 0, 0, 0);           // 3: no ATOMS, GROUNDED
        x.rule(1, 4, 0, 0);           // 4: an ATOM, not GROUNDED
        x.add(4, MARK, 3, 0, 0);
        x.rule(0, 0, 0, 0);           // 5: four VARIABLES that are not in the HEAD
        x.add(5, EDGE, 0, 1, 0);
        x.add(5, EDGE, 2, 3, 0);
        x.rule(3, 17, 1, 1);          // 6: three TERMS
        x.add(6, MARK, 1, 0, 0);
    }

    /** Adds so many FACTS, 000, 001 and so on (without the first VALUES, if there are fewer PLACES). */
    static void fill(Thimble x, int relation, int places, int many) {
        for (int k = 0; k < many; k++) {
            int low = k & 7;
            int high = k >> 3;
            x.fact(relation, places == 1 ? low : places == 2 ? high : 0, places == 2 ? low : high, low);
        }
    }

    /** 0: all 8 FACTS of one PLACE; 1 (two PLACES), 2, 5 (three): 24; 3 (one): none; 4 (two): 23. */
    private static Thimble full() {
        Thimble x = new Thimble();
        int[] places = {1, 2, 3, 1, 2, 3};
        int[] facts = {8, 24, 24, 0, 23, 24};
        for (int r = 0; r < 6; r++) {
            x.relation(places[r]);
            fill(x, r, places[r], facts[r]);
        }
        addFullFormulas(x);
        for (int r = 0; r < 8; r++) {
            x.rule(r % 4, 0, 1, r == 7 ? 5 : 12);
            x.add(r, 1, 0, 1, 0);
            x.add(r, 4, 1, 2, 0);
            x.add(r, 0, r % 3, 0, 0);
            x.add(r, r % 2 == 0 ? 2 : 5, 10, 1, 2);
            x.add(r, 4, 2, r == 6 ? 4 : 3, 0);
        }
        return x;
    }

    private static void addFullFormulas(Thimble x) {
        x.atom(0, 0, 0, 0);           // 0
        x.atom(1, 0, 1, 0);           // 1
        x.atom(2, 0, 1, 2);           // 2: three free
        x.atom(1, 2, 3, 0);           // 3
        x.join(true, 1, 3);           // 4: four free
        x.bind(true, 0, 1);           // 5
        x.bind(true, 1, 5);           // 6
        x.bind(false, 2, 6);          // 7: DEPTH 3
        x.join(true, 0, 0);           // 8: LENGTH 3
        x.join(true, 8, 8);           // 9: LENGTH 7
        x.join(false, 9, 9);          // 10: LENGTH 15
        x.join(true, 10, 10);         // 11: LENGTH 31
        x.join(true, 11, 9);          // 12: LENGTH 39
        x.not(12);                    // 13: LENGTH 40
        x.not(8);                     // 14
        x.not(14);                    // 15: LENGTH 5
        x.join(true, 11, 15);         // 16: LENGTH 37
        x.bind(true, 0, 16);          // 17
        x.bind(false, 1, 17);         // 18
        x.bind(true, 2, 18);          // 19: LENGTH 40, DEPTH 3
        for (int f = 20; f < 40; f++) {
            x.same(f % 6, 10 + f % 8);
        }
    }
}
