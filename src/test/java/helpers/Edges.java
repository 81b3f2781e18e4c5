import java.util.HashSet;
import java.util.Set;
import java.util.stream.Collectors;

/** Checks for the sentences of the document that name a boundary case, a test for each sentence. */
final class Edges {
    static final Class<IndexOutOfBoundsException> INDEX = IndexOutOfBoundsException.class;
    static final Class<IllegalArgumentException> ARGUMENT = IllegalArgumentException.class;
    static final Class<IllegalStateException> STATE = IllegalStateException.class;
    static final int LEAST = Integer.MIN_VALUE;
    static final int MOST = Integer.MAX_VALUE;

    private final Checks checks = new Checks();
    private final Set<String> sentences = new HashSet<>();
    private String sentence = "";

    /** The words of the document that the checks from here on are about. */
    void sentence(String words) {
        sentence = words;
        sentences.add(words);
    }

    /** The last of the calls answers so, on a new object that the maker has made. */
    void due(Object want, Asker.Maker maker, Asker.Call... calls) {
        Thimble x = maker.make();
        for (int k = 0; k < calls.length - 1; k++) {
            calls[k].of(x);
        }
        checks.due(where(), want, () -> calls[calls.length - 1].of(x));
    }

    /** The call answers so, and nothing that can be seen has changed. */
    void asked(Object want, Asker.Maker maker, Asker.Call call) {
        due(want, maker, call);
        unchanged(maker, call);
    }

    /** The call throws just that exception, and nothing that can be seen has changed. */
    void refused(Class<? extends RuntimeException> kind, Asker.Maker maker, Asker.Call call) {
        asked("throws." + kind.getSimpleName(), maker, call);
    }

    private void unchanged(Asker.Maker maker, Asker.Call call) {
        String before = Picture.of(maker);
        String after = Picture.of(() -> {
            Thimble x = maker.make();
            Checks.told(() -> call.of(x));
            return x;
        });
        checks.due(where() + " leaves all as it was", "", () -> firstDifference(before, after));
    }

    private static String firstDifference(String before, String after) {
        String[] was = before.split("\n");
        String[] is = after.split("\n");
        for (int k = 0; k < Math.min(was.length, is.length); k++) {
            if (!was[k].equals(is[k])) {
                return was[k] + " became " + is[k];
            }
        }
        return was.length == is.length ? "" : was.length + " lines became " + is.length;
    }

    /** The sentence, and the lines of the test that look at it. */
    private String where() {
        String lines = StackWalker.getInstance().walk(frames -> frames
                .filter(f -> f.getClassName().endsWith("EdgeTests") && !f.getMethodName().equals("main"))
                .map(f -> Integer.toString(f.getLineNumber())).collect(Collectors.joining(", from ")));
        return "line " + lines + " \"" + sentence + "\"";
    }

    void end(String name) {
        System.out.println(name + ": " + sentences.size() + " sentences");
        checks.end(name);
    }
}
