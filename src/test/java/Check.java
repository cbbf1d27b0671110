/** Counts the answers that are not as due, and tells them. */
final class Check {
    private int asked = 0;
    private int wrong = 0;
    private String sentence = "";

    /** The sentence of the document that the next answers are about. */
    void about(String words) {
        sentence = words + ": ";
    }

    void due(String call, Object got, Object want) {
        asked++;
        if (!want.equals(got)) {
            wrong++;
            System.out.println(sentence + call + " answered " + got + ", due is " + want);
        }
    }

    void due(String call, long got, long want) {
        due(call, (Object) got, (Object) want);
    }

    void yes(String call, boolean got) {
        due(call, (Object) got, (Object) true);
    }

    void no(String call, boolean got) {
        due(call, (Object) got, (Object) false);
    }

    /** The call throws just that class, and leaves the object as it was. */
    void refused(Paintedline x, String call, Class<?> want, Runnable run) {
        long was = x.digest();
        due(call + " throws", nameOfThrown(run), want.getSimpleName());
        due("digest() after " + call, x.digest(), was);
    }

    void badLine(Paintedline x, String call, Runnable run) {
        refused(x, call, IndexOutOfBoundsException.class, run);
    }

    void badValue(Paintedline x, String call, Runnable run) {
        refused(x, call, IllegalArgumentException.class, run);
    }

    void badState(Paintedline x, String call, Runnable run) {
        refused(x, call, IllegalStateException.class, run);
    }

    static String nameOfThrown(Runnable run) {
        try {
            run.run();
            return "nothing";
        } catch (RuntimeException thrown) {
            return thrown.getClass().getSimpleName();
        }
    }

    void end() {
        System.out.println(asked + " answers, " + wrong + " of them not as due");
        if (wrong != 0) {
            System.exit(1);
        }
    }
}
