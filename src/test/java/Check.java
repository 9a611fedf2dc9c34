/** Counts the answers that are not as due and prints each of them. */
final class Check {
    private final String name;
    private int asked;
    private int wrong;

    Check(String name) {
        this.name = name;
    }

    void same(String call, long got, long due) {
        tell(call, got == due, String.valueOf(got), String.valueOf(due));
    }

    void same(String call, double got, double due) {
        tell(call, got == due, String.valueOf(got), String.valueOf(due));
    }

    void yes(String what, boolean holds) {
        tell(what, holds, "false", "true");
    }

    /** The call throws just this exception, and changes nothing. */
    void raises(String call, Class<? extends RuntimeException> due, Pommel on, Runnable run) {
        long before = on.digest();
        String got = "nothing";
        try {
            run.run();
        } catch (RuntimeException e) {
            got = e.getClass().getSimpleName();
        }
        tell(call + " throws", got.equals(due.getSimpleName()), got, due.getSimpleName());
        same(call + " changes nothing", on.digest(), before);
    }

    void range(String call, Pommel on, java.util.function.IntConsumer run, int... wrongOnes) {
        for (int number : wrongOnes) {
            raises(call + " with " + number, IllegalArgumentException.class, on,
                    () -> run.accept(number));
        }
    }

    void noIndex(String call, Pommel on, java.util.function.IntConsumer run, int... wrongOnes) {
        for (int number : wrongOnes) {
            raises(call + " with " + number, IndexOutOfBoundsException.class, on,
                    () -> run.accept(number));
        }
    }

    void end() {
        System.out.println(name + ": " + asked + " answers, " + wrong + " not as due");
        if (wrong != 0 || asked == 0) {
            System.exit(1);
        }
    }

    private void tell(String call, boolean right, String got, String due) {
        asked++;
        if (!right) {
            wrong++;
            System.out.println(name + ": " + call + ": " + got + ", due is " + due);
        }
    }
}
