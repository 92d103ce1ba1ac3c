import java.math.BigInteger;

/** The edges that the promises name, sentence by sentence, of the calls that tell something: 9 to 11, 13 to 19. */
public final class TellingEdgeTest {
    private static final Class<IndexOutOfBoundsException> INDEX = IndexOutOfBoundsException.class;
    private static final Class<IllegalArgumentException> ARGUMENT = IllegalArgumentException.class;
    private static final int LEAST = Integer.MIN_VALUE;
    private static final int MOST = Integer.MAX_VALUE;

    private final Due due = new Due();

    public static void main(String[] args) {
        TellingEdgeTest test = new TellingEdgeTest();
        test.yealm();
        test.roof();
        test.count();
        test.tears();
        test.holds();
        test.foresee();
        test.advise();
        test.needs();
        test.mean();
        test.digest();
        test.due.end("TellingEdgeTest");
    }

    private interface Asked {
        long of(int number);
    }

    /** Two roofs, of 3 places and 2 courses, and of 2 places and 4 courses. */
    private static ThatchRoof twoRoofs() {
        ThatchRoof x = Villages.calm();
        x.build(3, 2, 45);
        x.build(2, 4, 45);
        return x;
    }

    /** Of two roofs there is none but 0 and 1. */
    private void noSuchRoof(ThatchRoof x, Asked asked) {
        for (int roof : new int[] {-1, 2, 5, 6, LEAST, MOST}) {
            due.refuses(x, "roof " + roof, INDEX, () -> asked.of(roof));
        }
        for (int roof = 0; roof < 2; roof++) {
            int r = roof;
            due.same("roof " + roof + " is there", Due.outcome(() -> asked.of(r)).startsWith("throws."), false);
        }
    }

    /** Of the numbers from least to most none is refused, and all around them are. */
    private void onlyFrom(ThatchRoof x, int least, int most, Class<? extends RuntimeException> refusal, Asked asked) {
        for (int number : new int[] {least - 1, most + 1, LEAST, MOST}) {
            due.refuses(x, "number " + number, refusal, () -> asked.of(number));
        }
        long before = x.digest();
        for (int number = least; number <= most; number++) {
            int n = number;
            due.same("number " + number + " is taken", Due.outcome(() -> asked.of(n)).startsWith("throws."), false);
        }
        due.same("nothing is changed by asking", x.digest(), before);
    }

    // ---- Promise 9

    private void yealm() {
        due.sentence("9: if there is no such roof", () -> {
            ThatchRoof x = twoRoofs();
            noSuchRoof(x, roof -> x.yealm(roof, 0, 0, 0));
        });
        due.sentence("9: course or place", () -> {
            ThatchRoof x = twoRoofs();
            onlyFrom(x, 0, 1, INDEX, course -> x.yealm(0, course, 0, 0));
            onlyFrom(x, 0, 3, INDEX, course -> x.yealm(1, course, 0, 0));
            onlyFrom(x, 0, 2, INDEX, place -> x.yealm(0, 0, place, 0));
            onlyFrom(x, 0, 1, INDEX, place -> x.yealm(1, 0, place, 0));
        });
        due.sentence("9: or what is not 0 to 5", () -> {
            ThatchRoof x = twoRoofs();
            x.lay(0, 0, 0, 0, 1, 0);
            onlyFrom(x, 0, 5, INDEX, what -> x.yealm(0, 0, 0, what));
            onlyFrom(x, 0, 5, INDEX, what -> x.yealm(0, 0, 1, what));
        });
        due.sentence("9: 1 its kind, -1 without one .. (2 to 5: 0 without a yealm)", this::withoutAYealm);
    }

    private void withoutAYealm() {
        ThatchRoof x = Villages.withRoof(4, 2, 44);
        due.told(x, 0, 0, 0, 0, -1, 0, 0, 0, 0);
        due.told(x, 0, 1, 3, 0, -1, 0, 0, 0, 0);
        x.lay(0, 0, 1, 2, 40, 1);
        x.lay(0, 0, 2, 1, 7, 9);
        due.told(x, 0, 0, 1, 1, 2, 40, 1, 0, 1);
        due.told(x, 0, 0, 2, 1, 1, 7, 9, 0, 1);
        Villages.weather(x, 5, 0);
        x.pass(3);
        due.told(x, 0, 0, 1, 1, 2, 37, 1, 3, 1);
        x.setWeather(3, 0, 9);
        due.told(x, 0, 0, 2, 1, 1, 1, 9, 3, 1);
        due.answers("one torn off and one worn away", 2, () -> x.pass(1));
        due.told(x, 0, 0, 1, 0, -1, 0, 0, 0, 0);
        due.told(x, 0, 0, 2, 0, -1, 0, 0, 0, 0);
    }

    // ---- Promise 10

    private void roof() {
        due.sentence("10: if there is no such roof", () -> {
            ThatchRoof x = twoRoofs();
            noSuchRoof(x, roof -> x.roof(roof, 0));
        });
        due.sentence("10: or what is not 0 to 8", () -> {
            ThatchRoof x = twoRoofs();
            onlyFrom(x, 0, 8, INDEX, what -> x.roof(0, what));
        });
        due.sentence("10: 7 yealms that were torn off in all, 8 yealms that wore away in all", this::goneInAll);
        due.sentence("10: 4 its yealms, 5 their thickness, added", this::fullAndEmptyRoof);
    }

    private void goneInAll() {
        ThatchRoof x = twoRoofs();
        for (int time = 1; time <= 4; time++) {
            x.lay(0, 0, 0, 0, 3, 0);
            x.lay(0, 0, 1, 1, 1, 9);
            x.lay(0, 0, 2, 1, 1, 9);
            due.answers("gone now", 3, () -> x.pass(1));
            due.answers("torn in all", time, () -> x.roof(0, 7));
            due.answers("worn in all", 2 * time, () -> x.roof(0, 8));
        }
        x.holds(0);
        x.advise(0, 24);
        x.foresee(0, 60, 0);
        x.lay(1, 0, 0, 1, 1, 9);
        x.foresee(1, 60, 0);
        due.answers("nothing of the other roof", 0, () -> x.roof(1, 7));
        due.answers("nothing that is only foreseen", 0, () -> x.roof(1, 8));
        x.tears(1, 9);
        due.answers("torn in all", 4, () -> x.roof(0, 7));
    }

    private void fullAndEmptyRoof() {
        ThatchRoof x = Villages.calm();
        x.build(10, 6, 60);
        due.answers("yealms of none", 0, () -> x.roof(0, 4));
        due.answers("thickness of none", 0, () -> x.roof(0, 5));
        for (int course = 0; course < 6; course++) {
            x.layCourse(0, course, course % 3, 40, 9);
        }
        due.answers("yealms of a full one", 60, () -> x.roof(0, 4));
        due.answers("thickness of a full one", 2400, () -> x.roof(0, 5));
        due.answers("leaks of a full one", 0, () -> x.roof(0, 6));
    }

    // ---- Promise 11

    private void count() {
        due.sentence("11: if what is not 0 to 8", () -> {
            ThatchRoof x = twoRoofs();
            onlyFrom(x, 0, 8, INDEX, what -> x.count(what));
        });
        due.sentence("11: 7 the rain of this month, 8 its storm", () -> {
            ThatchRoof x = twoRoofs();
            x.setWeather(0, 9, 8);
            x.setWeather(11, 7, 6);
            due.answers("rain of the first", 9, () -> x.count(7));
            due.answers("storm of the first", 8, () -> x.count(8));
            x.pass(11);
            due.answers("rain of the last", 7, () -> x.count(7));
            due.answers("storm of the last", 6, () -> x.count(8));
            x.setWeather(11, 1, 2);
            due.answers("rain that is new", 1, () -> x.count(7));
            x.pass(1);
            due.answers("rain of the first again", 9, () -> x.count(7));
        });
        due.sentence("11: 1 roofs .. 5 all yealms, 6 all places at which roofs leak", this::sixFullRoofs);
    }

    private void sixFullRoofs() {
        ThatchRoof x = Villages.calm();
        for (int roof = 0; roof < 6; roof++) {
            x.build(10, 6, 60);
        }
        due.answers("six roofs", 6, () -> x.count(1));
        due.answers("no yealms", 0, () -> x.count(5));
        due.answers("all leaks", 60, () -> x.count(6));
        for (int roof = 0; roof < 6; roof++) {
            for (int course = 0; course < 6; course++) {
                x.layCourse(roof, course, course % 3, 3, 9);
            }
        }
        due.answers("all yealms", 360, () -> x.count(5));
        due.answers("3 in each course is too thin", 60, () -> x.count(6));
        due.answers("reed left", 380, () -> x.count(2));
    }

    // ---- Promise 13

    private void tears() {
        due.sentence("13: if there is no such roof", () -> {
            ThatchRoof x = twoRoofs();
            noSuchRoof(x, roof -> x.tears(roof, 0));
        });
        due.sentence("13: if storm is not 0 to 9", () -> {
            ThatchRoof x = twoRoofs();
            x.layCourse(0, 0, 0, 3, 0);
            onlyFrom(x, 0, 9, ARGUMENT, storm -> x.tears(0, storm));
        });
        due.sentence("13: Returns how many of its yealms such a storm would tear off now", this::tearsNow);
    }

    /** Bare ones of a 3 with 0 to 9 spars, in the middle places: 3 and storm * 2 against spars * 2. */
    private void tearsNow() {
        ThatchRoof x = Villages.withRoof(10, 2, 60);
        for (int place = 1; place < 9; place++) {
            x.lay(0, 0, place, 0, 3, place);
        }
        for (int storm = 0; storm <= 9; storm++) {
            int s = storm;
            due.answers("storm " + storm, Math.min(storm + 1, 8), () -> x.tears(0, s));
        }
        x.setWeather(0, 0, 9);
        due.answers("the weather is not asked", 1, () -> x.tears(0, 0));
        due.answers("yealms are still there", 8, () -> x.roof(0, 4));
        due.answers("none is torn", 0, () -> x.roof(0, 7));
        x.build(3, 2, 60);
        due.answers("of an empty roof", 0, () -> x.tears(1, 9));
        due.answers("all, in that storm", 8, () -> x.pass(1));
        due.answers("none is left", 0, () -> x.tears(0, 9));
    }

    // ---- Promise 14

    private void holds() {
        due.sentence("14: if there is no such roof", () -> {
            ThatchRoof x = twoRoofs();
            noSuchRoof(x, roof -> x.holds(roof));
        });
        due.sentence("14: at most 120; -1 if not by then", this::holds120Months);
        due.sentence("14: it leaks at more places than now", this::moreLeaksThanNow);
        due.sentence("14: (nothing is changed)", this::holdsChangesNothing);
    }

    /** Rain of 9 in the first month of each year takes 2 of each: 58 are 14 behind 11 of them, in month 121. */
    private void holds120Months() {
        ThatchRoof x = Villages.withRoof(2, 2, 45);
        x.layCourse(0, 0, 2, 28, 9);
        x.layCourse(0, 1, 2, 30, 9);
        x.setWeather(0, 9, 0);
        due.answers("121 months", -1, () -> x.holds(0));
        x.pass(1);
        due.answers("120 months", 120, () -> x.holds(0));
        x.pass(1);
        due.answers("119 months", 119, () -> x.holds(0));
        x.pass(118);
        due.answers("one month", 1, () -> x.holds(0));
        x.pass(1);
        due.answers("all of it leaks", -1, () -> x.holds(0));
    }

    private void moreLeaksThanNow() {
        ThatchRoof x = Villages.withRoof(3, 2, 60);
        due.answers("an empty roof leaks everywhere", -1, () -> x.holds(0));
        x.lay(0, 0, 0, 1, 10, 9);
        x.lay(0, 1, 0, 1, 10, 9);
        // 20 less 2 a month is 16 behind two months, and 14 behind three
        due.answers("two leak now, and all then", 3, () -> x.holds(0));
        x.lay(0, 0, 1, 1, 10, 9);
        x.lay(0, 1, 1, 1, 7, 9);
        due.answers("two leak now, and three then", 1, () -> x.holds(0));
        x.mend(0, 0, 1);
        x.lay(0, 0, 2, 0, 40, 9);
        due.answers("one leaks now, and two then", 3, () -> x.holds(0));
        x.lay(0, 1, 2, 0, 1, 9);
        due.answers("none leaks now, and one then", 3, () -> x.holds(0));
        Villages.weather(x, 0, 0);
        x.setWeather(1, 0, 9);
        due.answers("the second month's storm is held", 3, () -> x.holds(0));
        x.build(3, 2, 60);
        x.layCourse(1, 0, 0, 40, 9);
        x.layCourse(1, 1, 0, 40, 2);
        // 18, and 20 at an end, against 4, 10 and 4
        due.answers("one that is torn off leaks", 2, () -> x.holds(1));
    }

    private void holdsChangesNothing() {
        ThatchRoof x = Villages.withRoof(3, 2, 30);
        x.layCourse(0, 0, 1, 30, 2);
        x.layCourse(0, 1, 1, 30, 2);
        Villages.weather(x, 7, 3);
        long before = x.digest();
        int first = x.holds(0);
        due.same("the digest", x.digest(), before);
        due.answers("asked again", first, () -> x.holds(0));
        x.pass(first - 1);
        due.answers("a month before it leaks", 0, () -> x.roof(0, 6));
        x.pass(1);
        due.same("and then", x.roof(0, 6) > 0, true);
    }

    // ---- Promise 15

    private void foresee() {
        due.sentence("15: if there is no such roof", () -> {
            ThatchRoof x = twoRoofs();
            noSuchRoof(x, roof -> x.foresee(roof, 1, 0));
        });
        due.sentence("15: or what is not 0 to 2", () -> {
            ThatchRoof x = twoRoofs();
            x.layCourse(0, 0, 1, 20, 9);
            onlyFrom(x, 0, 2, INDEX, what -> x.foresee(0, 30, what));
        });
        due.sentence("15: if months is not 1 to 60", () -> {
            ThatchRoof x = twoRoofs();
            x.layCourse(0, 0, 1, 20, 9);
            onlyFrom(x, 1, 60, ARGUMENT, months -> x.foresee(0, months, 0));
        });
        due.sentence("15: 0 its yealms then, 1 places at which it leaks then, 2 its ridge then", this::thenOf60Months);
        due.sentence("15: (nothing is changed)", this::foreseeAsItComes);
    }

    /** Straw of 40 is gone behind 40 months, of 10 and 10 it leaks behind 3; the ridge is less by 1 in each. */
    private void thenOf60Months() {
        ThatchRoof x = Villages.withRoof(2, 2, 60);
        x.layCourse(0, 0, 1, 10, 9);
        x.lay(0, 1, 0, 1, 10, 9);
        x.lay(0, 1, 1, 0, 40, 9);
        for (int months = 1; months <= 60; months++) {
            int m = months;
            due.answers("yealms behind " + m, m < 10 ? 4 : 1, () -> x.foresee(0, m, 0));
            due.answers("leaks behind " + m, m < 3 ? 0 : 1, () -> x.foresee(0, m, 1));
            due.answers("the ridge behind " + m, 100 - m, () -> x.foresee(0, m, 2));
        }
        Villages.weather(x, 0, 9);
        due.answers("the ridge behind 9 storms", 10, () -> x.foresee(0, 9, 2));
        due.answers("the ridge behind 10", 0, () -> x.foresee(0, 10, 2));
        due.answers("the ridge behind 11", 0, () -> x.foresee(0, 11, 2));
    }

    /** What is foreseen comes, over the end of a year too, and asking changes none of it. */
    private void foreseeAsItComes() {
        ThatchRoof x = Villages.withRoof(4, 3, 33);
        x.layCourse(0, 0, 0, 40, 6);
        x.layCourse(0, 1, 1, 36, 5);
        x.layCourse(0, 2, 2, 32, 4);
        for (int m = 0; m < 12; m++) {
            x.setWeather(m, (m * 5 + 3) % 10, (m * 3) % 8);
        }
        x.pass(5);
        long before = x.digest();
        int[][] foreseen = new int[16][3];
        for (int months = 1; months < foreseen.length; months++) {
            for (int what = 0; what < 3; what++) {
                foreseen[months][what] = x.foresee(0, months, what);
            }
        }
        due.same("the digest", x.digest(), before);
        for (int months = 1; months < foreseen.length; months++) {
            x.pass(1);
            due.answers("yealms behind " + months, foreseen[months][0], () -> x.roof(0, 4));
            due.answers("leaks behind " + months, foreseen[months][1], () -> x.roof(0, 6));
            due.answers("the ridge behind " + months, foreseen[months][2], () -> x.roof(0, 3));
        }
    }

    // ---- Promise 16

    private void advise() {
        due.sentence("16: if there is no such roof", () -> {
            ThatchRoof x = twoRoofs();
            noSuchRoof(x, roof -> x.advise(roof, 1));
        });
        due.sentence("16: if months is not 1 to 24", this::adviseMonths);
        due.sentence("16: so that the most yealms of it are left", this::adviseTheMost);
        due.sentence("16: Returns width * its course and its place", this::adviseTheNumber);
        due.sentence("16: of several the least number", this::adviseTheLeast);
        due.sentence("16: -1 if no more are left by any mending", this::adviseNone);
        due.sentence("16: be mended now (at most 40, at most 9, no moss)", this::adviseMendsAsByMend);
        due.sentence("16: (whatever is in the barn) .. (nothing is changed)", this::adviseTakesNothing);
    }

    /** Straw of 1 is gone behind a month, of 24 behind 24. */
    private void adviseMonths() {
        ThatchRoof x = twoRoofs();
        x.layCourse(0, 0, 1, 20, 9);
        onlyFrom(x, 1, 24, ARGUMENT, months -> x.advise(0, months));
        x.lay(1, 0, 1, 1, 24, 9);
        due.answers("23 months", -1, () -> x.advise(1, 23));
        due.answers("24 months", 1, () -> x.advise(1, 24));
        ThatchRoof y = twoRoofs();
        y.lay(0, 0, 1, 1, 1, 9);
        due.answers("a month", 1, () -> y.advise(0, 1));
        due.answers("10 months: it is 11, mended", 1, () -> y.advise(0, 10));
        due.answers("11 months", -1, () -> y.advise(0, 11));
        y.lay(0, 0, 2, 1, 2, 9);
        due.answers("a month: the other one is left anyway", 1, () -> y.advise(0, 1));
        due.answers("11 months: the other one is 12, mended", 2, () -> y.advise(0, 11));
    }

    /** Place 1 would lose one, place 2 a cover and what is below it; mending saves one of the first, or both. */
    private void adviseTheMost() {
        ThatchRoof x = Villages.withRoof(5, 2, 60);
        x.lay(0, 0, 1, 1, 1, 9);
        x.lay(0, 0, 3, 0, 3, 1);
        x.lay(0, 1, 3, 1, 1, 9);
        due.answers("what is lost, if nothing is done", 0, () -> x.foresee(0, 1, 0));
        due.answers("two are more than one", 8, () -> x.advise(0, 1));
        x.lay(0, 0, 2, 0, 3, 9);
        x.lay(0, 1, 2, 1, 1, 9);
        due.answers("two still", 8, () -> x.advise(0, 1));
        x.mend(0, 1, 3);
        due.answers("one is the most by now", 1, () -> x.advise(0, 1));
        x.mend(0, 0, 1);
        due.answers("the only one that is left", 7, () -> x.advise(0, 1));
    }

    private void adviseTheNumber() {
        ThatchRoof x = Villages.withRoof(10, 6, 60);
        for (int course = 0; course < 6; course++) {
            x.lay(0, course, 9, 0, 40, 9);
            x.lay(0, course, 0, course == 5 ? 1 : 0, course == 5 ? 1 : 40, 9);
        }
        due.answers("the first place of the highest course", 50, () -> x.advise(0, 1));
        x.mend(0, 5, 0);
        due.answers("none", -1, () -> x.advise(0, 1));
        ThatchRoof last = Villages.withRoof(10, 6, 60);
        for (int course = 0; course < 6; course++) {
            last.lay(0, course, 9, course == 5 ? 1 : 0, course == 5 ? 1 : 40, 9);
        }
        due.answers("the last place of the highest course", 59, () -> last.advise(0, 1));
        ThatchRoof first = Villages.withRoof(2, 2, 60);
        first.lay(0, 0, 0, 1, 1, 9);
        due.answers("the first of all", 0, () -> first.advise(0, 1));
        first.lay(0, 0, 1, 0, 1, 9);
        first.lay(0, 1, 1, 1, 1, 9);
        first.mend(0, 0, 0);
        due.answers("the last of the least roof", 3, () -> first.advise(0, 1));
    }

    private void adviseTheLeast() {
        ThatchRoof x = Villages.withRoof(4, 3, 60);
        x.layCourse(0, 0, 0, 40, 9);
        x.lay(0, 1, 0, 0, 40, 9);
        x.lay(0, 2, 0, 1, 1, 9);
        due.answers("one alone", 8, () -> x.advise(0, 1));
        x.lay(0, 1, 3, 1, 1, 9);
        due.answers("the lower course, though its place is later", 7, () -> x.advise(0, 1));
        x.lay(0, 1, 1, 1, 1, 9);
        due.answers("the earlier place", 5, () -> x.advise(0, 1));
        // What is below may be mended, or its cover: either saves one.
        ThatchRoof y = Villages.withRoof(4, 2, 60);
        y.lay(0, 0, 1, 0, 3, 1);
        y.lay(0, 1, 1, 0, 3, 0);
        y.setWeather(0, 0, 3);
        due.answers("6 against 2, and 6 against 5", 0, () -> y.foresee(0, 1, 0));
        due.answers("the lower one", 1, () -> y.advise(0, 1));
    }

    private void adviseNone() {
        ThatchRoof x = twoRoofs();
        due.answers("an empty roof", -1, () -> x.advise(0, 24));
        x.layCourse(0, 0, 0, 40, 9);
        x.layCourse(0, 1, 0, 40, 9);
        due.answers("all are left anyway", -1, () -> x.advise(0, 24));
        x.lay(1, 0, 0, 1, 3, 9);
        due.answers("13 are gone behind 13 months", -1, () -> x.advise(1, 13));
        due.answers("but not behind 12", 0, () -> x.advise(1, 12));
        due.answers("the other roof is not asked", -1, () -> x.advise(0, 12));
        ThatchRoof y = Villages.withRoof(3, 2, 60);
        y.lay(0, 0, 1, 0, 1, 0);
        y.setWeather(0, 0, 4);
        due.answers("11 against 4 and 2, mended", -1, () -> y.advise(0, 1));
        y.setWeather(0, 0, 1);
        due.answers("5 against 4 and 2, mended", 1, () -> y.advise(0, 1));
        due.answers("a yealm that is not there is not mended", -1, () -> twoRoofs().advise(1, 1));
    }

    private void adviseMendsAsByMend() {
        // 9 * 25 / 100 and 1 for straw: 3 a month of what is 35, and 40 when mended
        ThatchRoof thick = Villages.withRoof(3, 2, 45);
        thick.lay(0, 0, 1, 0, 40, 9);
        thick.lay(0, 1, 1, 1, 35, 9);
        Villages.weather(thick, 9, 0);
        due.answers("35 less 33", -1, () -> thick.advise(0, 11));
        due.answers("35 less 36, and 40 less 36", 4, () -> thick.advise(0, 12));
        due.answers("40 less 39", 4, () -> thick.advise(0, 13));
        due.answers("40 less 42, for it is no 45", -1, () -> thick.advise(0, 14));

        // covered and at an end, in a storm of 9: 20 against 16, and against 18 and 11 / 4 when mended
        ThatchRoof held = Villages.withRoof(3, 2, 60);
        held.lay(0, 0, 0, 0, 1, 8);
        held.lay(0, 1, 0, 0, 40, 9);
        held.setWeather(0, 0, 9);
        due.answers("9 spars and a thickness of 11 are enough", 0, () -> held.advise(0, 1));
        ThatchRoof bare = Villages.withRoof(3, 2, 60);
        bare.lay(0, 0, 1, 0, 1, 8);
        bare.setWeather(0, 0, 9);
        due.answers("21 against 18 and 11 / 4, for it has no 10 spars", -1, () -> bare.advise(0, 1));

        // moss of 9 makes rain of 2 take 2 a month of both, which are 22: without moss it takes 0, and 1 if bare
        ThatchRoof mossy = Villages.withRoof(3, 2, 30);
        mossy.lay(0, 0, 1, 0, 40, 9);
        mossy.lay(0, 1, 1, 0, 40, 9);
        Villages.weather(mossy, 5, 0);
        mossy.pass(9);
        due.told(mossy, 0, 0, 1, 1, 0, 22, 9, 9);
        due.told(mossy, 0, 1, 1, 1, 0, 22, 9, 9);
        Villages.weather(mossy, 2, 0);
        due.answers("22 less 20", -1, () -> mossy.advise(0, 10));
        due.answers("22 less 22", 1, () -> mossy.advise(0, 11));
        due.answers("32 less 5, and not 32 less 32", 1, () -> mossy.advise(0, 16));
    }

    private void adviseTakesNothing() {
        ThatchRoof x = new ThatchRoof();
        x.build(3, 2, 60);
        x.bring(1, 1);
        x.lay(0, 0, 1, 1, 1, 9);
        due.answers("nothing is in the barn", 0, () -> x.count(3));
        long before = x.digest();
        due.answers("it is told still", 1, () -> x.advise(0, 1));
        due.same("the digest", x.digest(), before);
        due.told(x, 0, 0, 1, 1, 1, 1, 9, 0, 1);
        due.answers("asked again", 1, () -> x.advise(0, 1));
        due.answers("it is gone, if nothing is done", 0, () -> x.foresee(0, 1, 0));
    }

    // ---- Promise 17

    private void needs() {
        due.sentence("17: if there is no such roof", () -> {
            ThatchRoof x = twoRoofs();
            noSuchRoof(x, roof -> x.needs(roof, 1));
        });
        due.sentence("17: if thickness is not 1 to 40", () -> {
            ThatchRoof x = twoRoofs();
            onlyFrom(x, 1, 40, ARGUMENT, thickness -> x.needs(0, thickness));
        });
        due.sentence("17: at each place of each course where there is none", this::needsOfFullAndEmpty);
    }

    private void needsOfFullAndEmpty() {
        ThatchRoof x = new ThatchRoof();
        x.build(10, 6, 60);
        x.build(2, 2, 60);
        for (int thickness = 1; thickness <= 40; thickness++) {
            int t = thickness;
            due.answers("an empty roof, " + t, 60 * (1 + (t - t % 4) / 4), () -> x.needs(0, t));
        }
        x.bring(0, 4);
        x.lay(1, 0, 0, 0, 1, 9);
        due.answers("three places", 33, () -> x.needs(1, 40));
        x.lay(1, 0, 1, 0, 1, 9);
        x.lay(1, 1, 0, 0, 1, 9);
        due.answers("one place", 11, () -> x.needs(1, 40));
        x.lay(1, 1, 1, 0, 1, 9);
        due.answers("a full roof", 0, () -> x.needs(1, 40));
        Villages.weather(x, 0, 0);
        x.setWeather(0, 0, 9);
        // 18 and 2 at an end, against 18 and, in the highest course, 5
        due.answers("the lower two are torn off", 2, () -> x.pass(1));
        due.answers("two places, below others", 4, () -> x.needs(1, 4));
    }

    // ---- Promise 18

    private void mean() {
        due.sentence("18: 0 if there are none", () -> {
            ThatchRoof x = new ThatchRoof();
            due.same("without roofs", x.mean(), 0.0);
            x.build(3, 2, 60);
            due.same("without yealms", x.mean(), 0.0);
            x.bring(1, 500);
            x.lay(0, 0, 1, 1, 1, 9);
            due.same("of one", x.mean(), 1.0);
            x.pass(1);
            due.same("when it is gone", x.mean(), 0.0);
        });
        due.sentence("18: Returns the mean thickness of all yealms", () -> {
            ThatchRoof x = twoRoofs();
            x.lay(0, 0, 0, 0, 40, 9);
            due.same("the most", x.mean(), 40.0);
            x.lay(1, 0, 0, 0, 1, 9);
            due.same("not cut, and of all roofs", x.mean(), 20.5);
            x.lay(1, 0, 1, 0, 2, 9);
            due.same("of three, not of a mean for each roof", x.mean(), 43.0 / 3.0);
        });
    }

    // ---- Promise 19

    private void digest() {
        due.sentence("19: A number d starts with 739", () -> {
            long[] numbers = new long[21];
            numbers[7] = 4;
            for (int m = 0; m < 12; m++) {
                numbers[9 + m] = 40;
            }
            due.same("of a new object", new ThatchRoof().digest(), wrapped(numbers));
        });
        due.sentence("19: d becomes d * 31 + x, which wraps around as a 64-bit integer", this::digestWrapsAround);
    }

    /** The remainder by 2^64 of the number that does not wrap around, which is far larger. */
    private long wrapped(long[] numbers) {
        BigInteger d = BigInteger.valueOf(739);
        for (long x : numbers) {
            d = d.multiply(BigInteger.valueOf(31)).add(BigInteger.valueOf(x));
        }
        due.same("longer than 64 bits", d.bitLength() > 64, true);
        return d.longValue();
    }

    private void digestWrapsAround() {
        ThatchRoof x = Villages.calm();
        x.build(2, 2, 45);
        x.lay(0, 0, 0, 0, 5, 3);
        x.setWeather(3, 9, 8);
        long[] counts = {0, 1, 498, 500, 500, 1, 2, 0, 0};
        long[] weather = {0, 0, 0, 98, 0, 0, 0, 0, 0, 0, 0, 0};
        long[] roof = {2, 2, 45, 100, 1, 5, 2, 0, 0};
        long[] yealms = {1, 0, 5, 3, 0, 1, 0, -1, 0, 0, 0, 0, 0, -1, 0, 0, 0, 0, 0, -1, 0, 0, 0, 0};
        due.same("of a roof with a yealm", x.digest(), wrapped(joined(counts, weather, roof, yealms)));
        x.build(3, 2, 60);
        counts[1] = 2;
        counts[6] = 5;
        long[] second = {3, 2, 60, 100, 0, 0, 3, 0, 0};
        long[] none = new long[36];
        for (int place = 0; place < 6; place++) {
            none[6 * place + 1] = -1;
        }
        due.same("of two roofs", x.digest(), wrapped(joined(counts, weather, roof, yealms, second, none)));
        x.lay(1, 0, 2, 2, 40, 9);
        counts[4] = 489;
        counts[5] = 2;
        second[4] = 1;
        second[5] = 40;
        long[] last = {1, 2, 40, 9, 0, 1};
        System.arraycopy(last, 0, none, 12, 6);
        due.same("course by course", x.digest(), wrapped(joined(counts, weather, roof, yealms, second, none)));
        due.same("asked again", x.digest(), x.digest());
    }

    private static long[] joined(long[]... rows) {
        int length = 0;
        for (long[] row : rows) {
            length += row.length;
        }
        long[] all = new long[length];
        int at = 0;
        for (long[] row : rows) {
            System.arraycopy(row, 0, all, at, row.length);
            at += row.length;
        }
        return all;
    }
}
