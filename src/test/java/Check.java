import java.util.function.IntConsumer;

/** Counts the answers that are not as due, and prints each of them with the sentence that asks it. */
final class Check {
    private final String name;
    /** The part of the document that is tested, null without one. */
    private final Document document;
    private String sentence;
    private int askedOfSentence;
    private int asked;
    private int wrong;

    private Check(String name, Document document) {
        this.name = name;
        this.document = document;
    }

    /** A test of a promise, which names all that it says. */
    static Check ofPromise(int number) {
        return new Check("Promise " + number, Document.ofPromise(number));
    }

    /** A test of lines of the document, which names all that they say. */
    static Check ofLines(String name, String... beginnings) {
        return new Check(name, Document.ofLines(beginnings));
    }

    /** A test that belongs to no sentence. */
    static Check of(String name) {
        return new Check(name, null);
    }

    /** What is asked from here on is due by this sentence. */
    void says(String words) {
        endSentence();
        sentence = words;
        askedOfSentence = 0;
        nameIt(words);
    }

    /** This sentence asks for nothing. */
    void free(String words) {
        nameIt(words);
    }

    void same(String call, long got, long due) {
        tell(call, got == due, String.valueOf(got), String.valueOf(due));
    }

    void same(String call, double got, double due) {
        tell(call, got == due, String.valueOf(got), String.valueOf(due));
    }

    void yes(String what, boolean holds) {
        tell(what, holds, "false", "true");
    }

    /** The call throws just this exception, and changes nothing. */
    void raises(String call, Class<? extends RuntimeException> due, Pommel on, Runnable run) {
        long before = on.digest();
        double meanBefore = on.meanScore();
        String got = "nothing";
        try {
            run.run();
        } catch (RuntimeException e) {
            got = e.getClass().getSimpleName();
            yes(call + " is thrown by the class itself", isThrownByPommel(e));
        }
        tell(call + " throws", got.equals(due.getSimpleName()), got, due.getSimpleName());
        yes(call + " changes nothing",
                on.digest() == before && on.meanScore() == meanBefore);
    }

    /** The call is refused as it stands. */
    void refuses(String call, Pommel on, Runnable run) {
        raises(call, IllegalStateException.class, on, run);
    }

    /** The call is refused with each of these. */
    void illegal(String call, Pommel on, IntConsumer run, int... wrongOnes) {
        for (int number : wrongOnes) {
            raises(call + " with " + number, IllegalArgumentException.class, on,
                    () -> run.accept(number));
        }
    }

    /** There is none with each of these numbers. */
    void noIndex(String call, Pommel on, IntConsumer run, int... wrongOnes) {
        for (int number : wrongOnes) {
            raises(call + " with " + number, IndexOutOfBoundsException.class, on,
                    () -> run.accept(number));
        }
    }

    void end() {
        endSentence();
        if (document != null) {
            for (String piece : document.unnamed()) {
                wrong++;
                System.out.println(name + ": not named: " + piece);
            }
        }
        System.out.println(name + ": " + asked + " answers, " + wrong + " not as due");
        if (wrong != 0 || asked == 0) {
            System.exit(1);
        }
    }

    /** Not by the machine or by the library, which throw exceptions with the same names. */
    private static boolean isThrownByPommel(RuntimeException e) {
        StackTraceElement[] trace = e.getStackTrace();
        return trace.length > 0 && trace[0].getClassName().equals("Pommel");
    }

    private void nameIt(String words) {
        if (document == null || !document.name(words)) {
            wrong++;
            System.out.println(name + " does not say: " + words);
        }
    }

    private void endSentence() {
        if (sentence != null && askedOfSentence == 0) {
            wrong++;
            System.out.println(name + ": nothing is asked of: " + sentence);
        }
    }

    private void tell(String call, boolean right, String got, String due) {
        asked++;
        askedOfSentence++;
        if (!right) {
            wrong++;
            System.out.println(name + (sentence == null ? "" : ", \"" + sentence + "\"") + ": "
                    + call + ": " + got + ", due is " + due);
        }
    }
}
