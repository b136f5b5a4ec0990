/** Holds answers beside those that are due, for the tests of this folder. */
final class Due {

    interface Call {
        Object answer();
    }

    private static int right = 0;
    private static int wrong = 0;

    private Due() {
    }

    /** The call's answer is the one that is due (an int and a long of the same number are the same). */
    static void is(String call, Object got, Object want) {
        if (plain(got).equals(plain(want))) {
            right++;
        } else {
            wrong++;
            System.out.println(call + " answered " + got + ", due is " + want);
        }
    }

    /** The call throws just this exception, and none of a class below it. */
    static void raises(String call, Class<? extends RuntimeException> want, Call made) {
        is(call, tried(made), "throws." + want.getSimpleName());
    }

    static void noSeat(String call, Call made) {
        raises(call, IndexOutOfBoundsException.class, made);
    }

    static void noArgument(String call, Call made) {
        raises(call, IllegalArgumentException.class, made);
    }

    static void noState(String call, Call made) {
        raises(call, IllegalStateException.class, made);
    }

    /** The answer, or throws. and the name of what was thrown. */
    static Object tried(Call made) {
        try {
            return made.answer();
        } catch (RuntimeException e) {
            return "throws." + e.getClass().getSimpleName();
        }
    }

    static void end(String test) {
        System.out.println(test + ": " + right + " answers right, " + wrong + " wrong");
        if (wrong > 0 || right == 0) {
            System.exit(1);
        }
    }

    private static Object plain(Object answer) {
        return answer instanceof Integer ? Long.valueOf((Integer) answer) : answer == null ? "null" : answer;
    }
}
