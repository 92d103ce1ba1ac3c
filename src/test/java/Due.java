/** Counts the checks of a test, prints those that go wrong, and ends the test. */
final class Due {
    interface Call {
        long answer();
    }

    private int right;
    private int wrong;
    private int sentences;
    private String under = "";

    /** One sentence of the document, and what holds it: a sentence without a check is wrong itself. */
    void sentence(String words, Runnable checks) {
        under = "[" + words + "] ";
        int before = right + wrong;
        checks.run();
        if (right + wrong == before) {
            same("nothing was checked,", "which", "something");
        }
        sentences++;
        under = "";
    }

    void same(String what, Object got, Object want) {
        if (want.equals(got)) {
            right++;
        } else {
            wrong++;
            System.out.println(under + what + " answered " + got + ", due is " + want);
        }
    }

    void answers(String what, long want, Call call) {
        same(what, outcome(call), Long.toString(want));
    }

    /** The call throws just this, and changes nothing. */
    void refuses(ThatchRoof x, String what, Class<? extends RuntimeException> want, Call call) {
        long before = x.digest();
        same(what, outcome(call), "throws." + want.getSimpleName());
        same(what + " leaves the digest", x.digest(), before);
    }

    /** What yealm() tells, in its order, as far as it is wanted. */
    void told(ThatchRoof x, int roof, int course, int place, int... want) {
        for (int what = 0; what < want.length; what++) {
            int asked = what;
            answers("yealm(" + roof + ", " + course + ", " + place + ", " + what + ")", want[what],
                    () -> x.yealm(roof, course, place, asked));
        }
    }

    void thick(ThatchRoof x, int course, int place, int want) {
        answers("thickness of yealm " + course + ", " + place, want, () -> x.yealm(0, course, place, 2));
    }

    /** The answer, or throws. and the exception's name. */
    static String outcome(Call call) {
        try {
            return Long.toString(call.answer());
        } catch (RuntimeException e) {
            return "throws." + e.getClass().getSimpleName();
        }
    }

    void end(String test) {
        System.out.println(test + ": " + (sentences == 0 ? "" : sentences + " sentences, ") + right
                + " checks as due, " + wrong + " not");
        if (wrong != 0) {
            System.exit(1);
        }
    }
}
