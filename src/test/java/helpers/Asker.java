/** Asks an object as many questions as one likes: before its calls are used up it is made anew. */
final class Asker {
    interface Maker {
        Thimble make();
    }

    interface Call {
        Object of(Thimble x);
    }

    /** Makers take at most 300 calls of the 512 that an object is good for. */
    private static final int QUESTIONS = 200;

    private final Maker maker;
    private Thimble x = null;
    private int left = 0;

    Asker(Maker maker) {
        this.maker = maker;
    }

    /** What the call answers, or throws. */
    String told(Call call) {
        if (left == 0) {
            x = maker.make();
            left = QUESTIONS;
        }
        left--;
        return Checks.told(() -> call.of(x));
    }

    /** The number that the call answers, whether something is so counts 1 or 0; -1 where it throws. */
    int number(Call call) {
        String told = told(call);
        if (told.startsWith("throws.")) {
            return -1;
        }
        return told.equals("true") ? 1 : told.equals("false") ? 0 : Integer.parseInt(told);
    }
}
