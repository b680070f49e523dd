import java.util.concurrent.Callable;

/** Tells answers that are not the ones that are due. */
final class Due {
    private static int wrong;

    private Due() {
    }

    static void is(String what, Object got, Object want) {
        if (!got.equals(want)) {
            wrong++;
            System.out.println(what + " answered " + got + ", due is " + want);
        }
    }

    static void is(String what, int got, int want) {
        is(what, (Object) got, (Object) want);
    }

    static void is(String what, char got, int want) {
        is(what, (Object) got, (Object) (char) want);
    }

    /** The very exception is due, not one of a class below it. */
    static void throwing(String what, Class<?> want, Callable<?> call) {
        Object got;
        try {
            got = "answer " + call.call();
        } catch (Exception e) {
            got = e.getClass();
        }
        is(what, got, want);
    }

    static void outOfBounds(String what, Callable<?> call) {
        throwing(what, IndexOutOfBoundsException.class, call);
    }

    static void illegalArgument(String what, Callable<?> call) {
        throwing(what, IllegalArgumentException.class, call);
    }

    static void illegalState(String what, Callable<?> call) {
        throwing(what, IllegalStateException.class, call);
    }

    static void noSuchElement(String what, Callable<?> call) {
        throwing(what, java.util.NoSuchElementException.class, call);
    }

    static void unsupported(String what, Callable<?> call) {
        throwing(what, UnsupportedOperationException.class, call);
    }

    static void end() {
        if (wrong > 0) {
            System.out.println(wrong + " answers are not as due");
            System.exit(1);
        }
    }
}
