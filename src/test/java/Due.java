/** Counts the checks of a test, prints those that go wrong, and ends the test. */
final class Due {
    interface Call {
        long answer();
    }

    private int right;
    private int wrong;

    void same(String what, Object got, Object want) {
        if (want.equals(got)) {
            right++;
        } else {
            wrong++;
            System.out.println(what + " answered " + got + ", due is " + want);
        }
    }

    void answers(String what, long want, Call call) {
        same(what, outcome(call), Long.toString(want));
    }

    /** The call throws just this, and changes nothing. */
    void refuses(ThatchRoof x, String what, Class<? extends RuntimeException> want, Call call) {
        long before = x.digest();
        same(what, outcome(call), "throws." + want.getSimpleName());
        same(what + " leaves the digest", x.digest(), before);
    }

    /** The answer, or throws. and the exception's name. */
    static String outcome(Call call) {
        try {
            return Long.toString(call.answer());
        } catch (RuntimeException e) {
            return "throws." + e.getClass().getSimpleName();
        }
    }

    void end(String test) {
        System.out.println(test + ": " + right + " checks as due, " + wrong + " not");
        if (wrong != 0) {
            System.exit(1);
        }
    }
}
