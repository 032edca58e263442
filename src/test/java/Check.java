/** What the tests of the project share: answers and exceptions are compared, and what is wrong is printed. */
final class Check {
    interface Call {
        Object answer();
    }

    private static int wrong = 0;

    private Check() {
    }

    static void due(String what, Object got, Object due) {
        if (!plain(got).equals(plain(due))) {
            wrong++;
            System.out.println(what + " answered " + got + ", due is " + due);
        }
    }

    /** The exception is due, of this very class. */
    static void throwing(String what, Class<? extends RuntimeException> due, Call call) {
        Class<?> got = null;
        Object answer = null;
        try {
            answer = call.answer();
        } catch (RuntimeException e) {
            got = e.getClass();
        }
        if (got != due) {
            wrong++;
            System.out.println(what + (got == null ? " answered " + answer : " threw " + got) + ", due is " + due);
        }
    }

    static void noIndex(String what, Call call) {
        throwing(what, IndexOutOfBoundsException.class, call);
    }

    static void noArgument(String what, Call call) {
        throwing(what, IllegalArgumentException.class, call);
    }

    static void noState(String what, Call call) {
        throwing(what, IllegalStateException.class, call);
    }

    static void noOperation(String what, Call call) {
        throwing(what, UnsupportedOperationException.class, call);
    }

    static void noElement(String what, Call call) {
        throwing(what, java.util.NoSuchElementException.class, call);
    }

    private static Object plain(Object value) {
        return value instanceof Integer i ? (Object) Long.valueOf(i) : value;
    }

    static void end() {
        System.out.println(wrong == 0 ? "all answers are as due" : wrong + " answers are not as due");
        System.exit(wrong == 0 ? 0 : 1);
    }
}
