/** Compares answers with those that are due, and counts the wrong ones. */
final class Checks {
    interface Call {
        Object answer();
    }

    private int wrong = 0;
    private int made = 0;

    /** A boolean is told as true or false, a thrown exception as the name of its very class. */
    static String told(Call call) {
        try {
            return String.valueOf(call.answer());
        } catch (RuntimeException e) {
            return "throws." + e.getClass().getSimpleName();
        }
    }

    void due(String what, Object want, Call call) {
        made++;
        String got = told(call);
        if (!got.equals(String.valueOf(want))) {
            wrong++;
            System.out.println(what + " answered " + got + ", due is " + want);
        }
    }

    /** Throws an exception of just that class, and changes nothing. */
    void fails(String what, Thimble x, Class<? extends RuntimeException> kind, Call call) {
        long before = x.digest();
        due(what, "throws." + kind.getSimpleName(), call);
        due(what + ", then digest", before, x::digest);
    }

    void end(String name) {
        System.out.println(name + ": " + made + " checks, " + wrong + " wrong");
        if (wrong != 0) {
            System.exit(1);
        }
    }
}
