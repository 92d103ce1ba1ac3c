/** The edges that the document's Terms name, sentence by sentence: what there is, and how a month goes. */
public final class TermsEdgeTest {
    private static final Class<IndexOutOfBoundsException> INDEX = IndexOutOfBoundsException.class;
    private static final Class<IllegalArgumentException> ARGUMENT = IllegalArgumentException.class;
    private static final Class<IllegalStateException> STATE = IllegalStateException.class;

    private final Due due = new Due();

    public static void main(String[] args) {
        TermsEdgeTest test = new TermsEdgeTest();
        test.whatThereIs();
        test.rain();
        test.moss();
        test.storm();
        test.ridgeAndMonth();
        test.leaks();
        test.exceptions();
        test.due.end("TermsEdgeTest");
    }

    // ---- what there is

    private void whatThereIs() {
        due.sentence("An object is used for at most 512 calls", this::callNumber512);
        due.sentence("/ is cut towards 0", this::cutTowards0);
        due.sentence("Time is told in months, from 0; the month of the year is that by the remainder of 12",
                this::yearGoesRound);
        due.sentence("each is 2 to 10 places wide and has 2 to 6 courses, numbered from 0 at the eaves",
                this::leastAndLargestRoof);
        due.sentence("a ridge, 0 to 100 (100, at first)", this::ridgeAtFirst);
        due.sentence("a thickness, 1 to 40, and spars, 0 to 9", this::leastAndMostOfYealm);
        due.sentence("moss, 0 to 9 (0, at first)", this::mossAtFirst);
        due.sentence("It is bare, if it is not in the highest course", this::highestIsNeverBare);
        due.sentence("and there is no yealm above it (in the next course, at its place)", this::bareBelowAGap);
        due.sentence("It has bundles of each kind, 0 to 500 (0, at first)", this::barnAtFirst);
        due.sentence("for each of the 12 months rain, 0 to 9 (4, at first), and storm, 0 to 9 (0, at first)",
                this::weatherAtFirst);
    }

    private void callNumber512() {
        ThatchRoof x = new ThatchRoof();
        for (int i = 0; i < 511; i++) {
            due.answers("pass(120)", 0, () -> x.pass(120));
        }
        due.answers("the month, as the 512th call", 511 * 120, () -> x.count(0));

        ThatchRoof y = new ThatchRoof();
        y.bring(0, 500);
        y.build(10, 6, 60);
        for (int course = 0; course < 6; course++) {
            y.layCourse(0, course, 0, 20, 9);
        }
        for (int i = 0; i < 503; i++) {
            due.answers("advise(0, 24)", -1, () -> y.advise(0, 24));
        }
        due.answers("the yealms, as the 512th call", 60, () -> y.count(5));
    }

    private void cutTowards0() {
        ThatchRoof x = Villages.thatched(3, 2, 59);
        Villages.weather(x, 9, 0);
        x.pass(1);
        due.thick(x, 1, 1, 40);
        ThatchRoof y = Villages.withRoof(3, 2, 30);
        due.answers("3 / 4 of a bundle, and 1", 1, () -> y.lay(0, 0, 1, 0, 3, 0));
        due.answers("39 / 4 of a bundle, and 1", 10, () -> y.lay(0, 1, 1, 0, 39, 0));
    }

    private void yearGoesRound() {
        ThatchRoof x = Villages.calm();
        for (int m = 0; m < 12; m++) {
            x.setWeather(m, m % 10, 9 - m % 10);
        }
        int[] months = {1, 10, 1, 11, 1, 1, 119};
        int month = 0;
        due.answers("the first month", 0, () -> x.count(0));
        for (int more : months) {
            x.pass(more);
            month += more;
            int ofYear = month % 12;
            due.answers("the month", month, () -> x.count(0));
            due.answers("rain of month " + month, ofYear % 10, () -> x.count(7));
            due.answers("storm of month " + month, 9 - ofYear % 10, () -> x.count(8));
        }
        ThatchRoof y = Villages.withRoof(2, 2, 60);
        y.setWeather(0, 0, 9);
        y.pass(12);
        due.answers("the ridge behind a year", 79, () -> y.roof(0, 3));
        y.pass(1);
        due.answers("and behind the storm of the next one", 69, () -> y.roof(0, 3));
    }

    private void leastAndLargestRoof() {
        ThatchRoof x = Villages.calm();
        x.build(2, 2, 45);
        x.build(10, 6, 45);
        int kind = 0;
        for (int roof = 0; roof < 2; roof++) {
            for (int course = 0; course < x.roof(roof, 1); course++) {
                for (int place = 0; place < x.roof(roof, 0); place++) {
                    x.lay(roof, course, place, kind, 1 + (course * 10 + place) % 40, place % 10);
                    kind = (kind + 1) % 3;
                }
            }
        }
        due.told(x, 0, 0, 0, 1, 0, 1, 0, 0, 0);
        due.told(x, 0, 0, 1, 1, 1, 2, 1, 0, 0);
        due.told(x, 0, 1, 0, 1, 2, 11, 0, 0, 0);
        due.told(x, 0, 1, 1, 1, 0, 12, 1, 0, 0);
        due.told(x, 1, 0, 0, 1, 1, 1, 0, 0, 0);
        due.told(x, 1, 0, 9, 1, 1, 10, 9, 0, 0);
        due.told(x, 1, 1, 0, 1, 2, 11, 0, 0, 0);
        due.told(x, 1, 5, 0, 1, 0, 11, 0, 0, 0);
        due.told(x, 1, 5, 9, 1, 0, 20, 9, 0, 0);
        due.answers("all its yealms", 60, () -> x.roof(1, 4));
        due.answers("all of both", 64, () -> x.count(5));
        due.refuses(x, "a place beside the least roof", INDEX, () -> x.yealm(0, 0, 2, 0));
        due.refuses(x, "a course over the least roof", INDEX, () -> x.yealm(0, 2, 0, 0));
        due.refuses(x, "a place beside the largest roof", INDEX, () -> x.yealm(1, 0, 10, 0));
        due.refuses(x, "a course over the largest roof", INDEX, () -> x.yealm(1, 6, 0, 0));
    }

    private void ridgeAtFirst() {
        ThatchRoof x = Villages.withRoof(2, 2, 45);
        due.answers("at first", 100, () -> x.roof(0, 3));
        x.pass(3);
        x.build(2, 2, 45);
        due.answers("at first, of a roof that is built later", 100, () -> x.roof(1, 3));
        due.answers("not of the earlier one", 97, () -> x.roof(0, 3));
        x.pass(96);
        due.answers("the least but one", 1, () -> x.roof(0, 3));
        x.pass(2);
        due.answers("0", 0, () -> x.roof(0, 3));
        due.answers("it has lost 98", 2, () -> x.roof(1, 3));
    }

    private void leastAndMostOfYealm() {
        ThatchRoof x = Villages.withRoof(3, 2, 45);
        x.lay(0, 0, 0, 0, 1, 0);
        x.lay(0, 0, 1, 0, 40, 9);
        due.told(x, 0, 0, 0, 1, 0, 1, 0, 0, 1);
        due.told(x, 0, 0, 1, 1, 0, 40, 9, 0, 1);
    }

    /** Where a mossy one was torn off or wore away, the next one begins without. */
    private void mossAtFirst() {
        ThatchRoof x = Villages.withRoof(3, 2, 44);
        x.lay(0, 0, 1, 0, 40, 4);
        x.lay(0, 1, 1, 0, 40, 9);
        due.told(x, 0, 0, 1, 1, 0, 40, 4, 0);
        Villages.weather(x, 5, 0);
        x.pass(9);
        due.told(x, 0, 0, 1, 1, 0, 31, 4, 9);
        Villages.weather(x, 0, 9);
        x.pass(1);
        due.told(x, 0, 0, 1, 0, -1, 0, 0, 0, 0);
        x.lay(0, 0, 1, 0, 40, 4);
        due.told(x, 0, 0, 1, 1, 0, 40, 4, 0);
        ThatchRoof y = Villages.withRoof(3, 2, 44);
        y.lay(0, 0, 1, 1, 4, 9);
        Villages.weather(y, 5, 0);
        y.pass(1);
        due.told(y, 0, 0, 1, 1, 1, 2, 9, 1);
        y.pass(1);
        due.told(y, 0, 0, 1, 0, -1, 0, 0, 0, 0);
        y.layCourse(0, 0, 1, 40, 9);
        due.told(y, 0, 0, 1, 1, 1, 40, 9, 0);
    }

    private void highestIsNeverBare() {
        ThatchRoof x = Villages.thatched(2, 2, 45);
        due.answers("bare below the highest", 0, () -> x.yealm(0, 0, 0, 5));
        due.answers("bare in the highest", 0, () -> x.yealm(0, 1, 0, 5));
        ThatchRoof y = Villages.thatched(2, 6, 45);
        due.answers("bare in the highest of 6", 0, () -> y.yealm(0, 5, 1, 5));
    }

    /** The storm tears the one in the middle: the lowest is bare then, though there is one in the highest. */
    private void bareBelowAGap() {
        ThatchRoof x = Villages.withRoof(4, 3, 45);
        x.layCourse(0, 0, 0, 40, 9);
        due.answers("nothing above", 1, () -> x.yealm(0, 0, 1, 5));
        x.lay(0, 1, 2, 0, 3, 0);
        due.answers("one above at the next place", 1, () -> x.yealm(0, 0, 1, 5));
        due.answers("one above", 0, () -> x.yealm(0, 0, 2, 5));
        due.answers("none in the highest", 1, () -> x.yealm(0, 1, 2, 5));
        x.lay(0, 2, 2, 0, 40, 9);
        due.answers("one in the highest", 0, () -> x.yealm(0, 1, 2, 5));
        x.setWeather(0, 0, 1);
        due.answers("the middle one goes", 1, () -> x.pass(1));
        due.told(x, 0, 1, 2, 0);
        due.told(x, 0, 2, 2, 1, 0, 40, 9, 0, 0);
        due.answers("one above, but not in the next course", 1, () -> x.yealm(0, 0, 2, 5));
    }

    private void barnAtFirst() {
        for (int kind = 0; kind < 3; kind++) {
            int k = kind;
            ThatchRoof x = new ThatchRoof();
            due.answers("at first", 0, () -> x.count(2 + k));
            x.bring(k, 500);
            due.answers("at the most", 500, () -> x.count(2 + k));
            due.answers("of another kind", 0, () -> x.count(2 + (k + 1) % 3));
        }
    }

    private void weatherAtFirst() {
        ThatchRoof x = new ThatchRoof();
        for (int m = 0; m < 12; m++) {
            int month = m;
            due.answers("rain in month " + m, 4, () -> x.count(7));
            due.answers("storm in month " + m, 0, () -> x.count(8));
            x.pass(1);
            due.answers("both of month " + m, 40, () -> x.setWeather(month, 9, 9));
            due.answers("at the most", 99, () -> x.setWeather(month, 0, 0));
            due.answers("at the least", 0, () -> x.setWeather(month, 4, 0));
        }
    }

    // ---- 1. rain

    private void rain() {
        due.sentence("it becomes thinner by (rain ..) * (70 less the slope) / 100", this::thinnerByRain);
        due.sentence("its moss / 3 .. added", this::thinnerByMoss);
        due.sentence("and 2, if it was bare", this::thinnerIfBare);
        due.sentence("if it was bare ahead of this step", this::bareAheadOfRain);
        due.sentence("and, for straw, by 1 more", this::strawThinsMore);
        due.sentence("With a thickness of 0 or less it is gone (it wore away)", this::wornAt0OrLess);
    }

    /** Covered, or in the highest course, and without moss: what a month of this rain takes. */
    private void takes(int slope, int rain, int want) {
        ThatchRoof x = Villages.thatched(3, 2, slope);
        Villages.weather(x, rain, 0);
        x.pass(1);
        due.answers("rain " + rain + " on a slope of " + slope, 40 - want, () -> x.yealm(0, 0, 1, 2));
        due.answers("in the highest course too", 40 - want, () -> x.yealm(0, 1, 1, 2));
    }

    private void thinnerByRain() {
        takes(30, 0, 0);
        takes(30, 2, 0);
        takes(30, 3, 1);
        takes(30, 4, 1);
        takes(30, 5, 2);
        takes(30, 7, 2);
        takes(30, 8, 3);
        takes(30, 9, 3);
        takes(45, 3, 0);
        takes(45, 4, 1);
        takes(50, 4, 0);
        takes(50, 5, 1);
        takes(58, 9, 1);
        takes(59, 9, 0);
        takes(60, 9, 0);
    }

    /** What a month of this rain takes of covered reed, after so many months have each brought one more moss. */
    private void mossTakes(int moss, int rain, int want) {
        ThatchRoof x = Villages.thatched(3, 2, 30);
        Villages.weather(x, 5, 0);
        if (moss > 0) {
            x.pass(moss);
        }
        int before = x.yealm(0, 0, 1, 2);
        due.answers("moss", moss, () -> x.yealm(0, 0, 1, 4));
        Villages.weather(x, rain, 0);
        x.pass(1);
        due.answers("rain " + rain + " with moss of " + moss, before - want, () -> x.yealm(0, 0, 1, 2));
    }

    private void thinnerByMoss() {
        mossTakes(0, 2, 0);
        mossTakes(2, 2, 0);
        mossTakes(3, 2, 1);
        mossTakes(5, 1, 0);
        mossTakes(6, 1, 1);
        mossTakes(8, 0, 0);
        mossTakes(9, 0, 1);
    }

    private void thinnerIfBare() {
        ThatchRoof x = Villages.withRoof(4, 2, 60);
        x.layCourse(0, 0, 0, 40, 9);
        x.lay(0, 1, 2, 0, 40, 9);
        Villages.weather(x, 7, 0);
        x.pass(1);
        due.thick(x, 0, 1, 40);
        Villages.weather(x, 8, 0);
        x.pass(1);
        due.thick(x, 0, 1, 39);
        due.thick(x, 0, 2, 40);
        due.thick(x, 1, 2, 40);
    }

    /** Its cover wears away in this very step, and counts still. */
    private void bareAheadOfRain() {
        ThatchRoof x = Villages.withRoof(3, 2, 30);
        x.lay(0, 0, 1, 0, 40, 9);
        x.lay(0, 1, 1, 0, 1, 9);
        Villages.weather(x, 3, 0);
        due.answers("the cover wears away", 1, () -> x.pass(1));
        due.thick(x, 0, 1, 39);
        x.pass(1);
        due.thick(x, 0, 1, 37);
    }

    private void strawThinsMore() {
        for (int kind = 0; kind < 3; kind++) {
            ThatchRoof x = Villages.withRoof(3, 2, 60);
            x.layCourse(0, 0, kind, 20, 9);
            x.layCourse(0, 1, kind, 20, 9);
            x.pass(1);
            due.thick(x, 0, 1, kind == 1 ? 19 : 20);
            due.thick(x, 1, 1, kind == 1 ? 19 : 20);
            Villages.weather(x, 4, 0);
            x.build(3, 2, 30);
            x.layCourse(1, 0, kind, 20, 9);
            x.layCourse(1, 1, kind, 20, 9);
            x.pass(1);
            due.told(x, 1, 1, 1, 1, kind, kind == 1 ? 18 : 19);
        }
        ThatchRoof last = Villages.withRoof(3, 2, 60);
        last.lay(0, 0, 1, 1, 1, 9);
        due.answers("straw of 1, without rain", 1, () -> last.pass(1));
    }

    private void wornAt0OrLess() {
        ThatchRoof x = Villages.withRoof(6, 2, 30);
        x.layCourse(0, 0, 0, 40, 9);
        x.lay(0, 1, 1, 0, 4, 9);
        x.lay(0, 1, 2, 0, 3, 9);
        x.lay(0, 1, 3, 0, 2, 9);
        x.lay(0, 1, 4, 0, 1, 9);
        Villages.weather(x, 9, 0);
        due.answers("0, -1 and -2", 3, () -> x.pass(1));
        due.told(x, 0, 1, 1, 1, 0, 1, 9);
        due.told(x, 0, 1, 2, 0, -1, 0, 0, 0, 0);
        due.told(x, 0, 1, 3, 0, -1, 0, 0, 0, 0);
        due.told(x, 0, 1, 4, 0, -1, 0, 0, 0, 0);
        due.answers("wore away", 3, () -> x.roof(0, 8));
        due.answers("torn off", 0, () -> x.roof(0, 7));
        // of the six of 40 below, the four that were covered lost 3, and the bare two at the ends 4
        due.answers("nothing below 0 is added", 37 * 4 + 36 * 2 + 1, () -> x.roof(0, 5));
    }

    // ---- 2. moss

    private void moss() {
        due.sentence("1 more (at most 9)", this::mossAtMost9);
        due.sentence("if the rain is 5 or more", this::mossFromRain5);
        due.sentence("and the roof is less steep than 45", this::mossBelowSlope45);
        due.sentence("Moss, of each yealm that is left", this::mossBehindRain);
    }

    private void mossAtMost9() {
        ThatchRoof x = Villages.thatched(3, 2, 44);
        Villages.weather(x, 5, 0);
        for (int month = 1; month <= 12; month++) {
            x.pass(1);
            int want = Math.min(month, 9);
            due.answers("behind " + month + " months", want, () -> x.yealm(0, 0, 1, 4));
            due.answers("in the highest course", want, () -> x.yealm(0, 1, 1, 4));
        }
    }

    private void mossFromRain5() {
        for (int rain = 0; rain < 10; rain++) {
            ThatchRoof x = Villages.thatched(3, 2, 30);
            Villages.weather(x, rain, 0);
            x.pass(1);
            due.answers("rain " + rain, rain >= 5 ? 1 : 0, () -> x.yealm(0, 0, 1, 4));
        }
    }

    private void mossBelowSlope45() {
        for (int slope = 30; slope <= 60; slope++) {
            ThatchRoof x = Villages.thatched(3, 2, slope);
            Villages.weather(x, 9, 0);
            x.pass(1);
            due.answers("slope " + slope, slope < 45 ? 1 : 0, () -> x.yealm(0, 1, 1, 4));
        }
    }

    /** The third moss comes behind the third month's rain, which is not made worse by it. */
    private void mossBehindRain() {
        ThatchRoof x = Villages.thatched(3, 2, 30);
        Villages.weather(x, 9, 0);
        x.pass(3);
        due.told(x, 0, 0, 1, 1, 0, 31, 9, 3, 0);
        x.pass(1);
        due.told(x, 0, 0, 1, 1, 0, 27, 9, 4, 0);
        ThatchRoof y = Villages.withRoof(3, 2, 30);
        y.lay(0, 0, 1, 0, 4, 9);
        Villages.weather(y, 9, 0);
        y.pass(1);
        due.told(y, 0, 0, 1, 0, -1, 0, 0, 0, 0);
    }

    // ---- 3. storm

    private void storm() {
        due.sentence("storm * 2 .. are more than 2 * its spars and its thickness / 4", this::tornByMore);
        due.sentence("and 3 more, if it is bare", this::tornIfBare);
        due.sentence("and 2 more, if it is at an end of its course (the first or the last place)", this::tornAtEnds);
        due.sentence("and, in the highest course, the ridge / 20", this::heldByRidge);
        due.sentence("All are looked at as they were ahead of this step", this::lookedAtAheadOfStorm);
        due.sentence("those that are torn off are gone then (the others stay, also above them)", this::othersStay);
        due.sentence("A month goes like this: 1. Rain, 2. Moss, 3. Storm, 4. The ridge", this::stormBehindRain);
    }

    /** A covered yealm that is at no end: is it torn by this storm? */
    private void covered(int thickness, int spars, int storm, boolean torn) {
        ThatchRoof x = Villages.withRoof(3, 3, 60);
        x.lay(0, 0, 1, 0, thickness, spars);
        x.lay(0, 1, 1, 0, 40, 9);
        x.lay(0, 2, 1, 0, 40, 9);
        String what = "storm " + storm + " against " + spars + " spars and a thickness of " + thickness;
        due.answers(what, torn ? 1 : 0, () -> x.tears(0, storm));
        x.setWeather(0, 0, storm);
        due.answers(what, torn ? 1 : 0, () -> x.pass(1));
        due.answers(what, torn ? 0 : 1, () -> x.yealm(0, 0, 1, 0));
        due.answers(what + ", torn off in all", torn ? 1 : 0, () -> x.roof(0, 7));
        due.answers(what + ", worn", 0, () -> x.roof(0, 8));
    }

    private void tornByMore() {
        covered(3, 0, 0, false);
        covered(3, 0, 1, true);
        covered(4, 0, 1, true);
        covered(7, 0, 1, true);
        covered(8, 0, 1, false);
        covered(3, 1, 1, false);
        covered(3, 4, 4, false);
        covered(3, 4, 5, true);
        covered(7, 4, 5, true);
        covered(8, 4, 5, false);
        covered(40, 3, 8, false);
        covered(39, 3, 8, true);
        covered(1, 9, 9, false);
        covered(3, 8, 9, true);
        covered(40, 9, 9, false);
    }

    private void tornIfBare() {
        ThatchRoof x = Villages.withRoof(6, 2, 60);
        x.lay(0, 0, 1, 0, 3, 1);
        x.lay(0, 0, 2, 0, 4, 1);
        x.lay(0, 0, 3, 0, 3, 1);
        x.lay(0, 1, 3, 0, 40, 9);
        x.lay(0, 0, 4, 0, 1, 2);
        due.answers("3 against 2, 3, 2 covered, and 4", 1, () -> x.tears(0, 0));
        due.answers("5 against 2, 3 and 4; 2 covered against 2", 3, () -> x.tears(0, 1));
        due.answers("once more, in a month", 1, () -> x.pass(1));
        due.told(x, 0, 0, 1, 0);
        due.told(x, 0, 0, 2, 1);
        due.told(x, 0, 0, 3, 1);
        due.told(x, 0, 0, 4, 1);
    }

    private void tornAtEnds() {
        int[] widths = {2, 3, 10};
        for (int width : widths) {
            ThatchRoof x = Villages.withRoof(width, 2, 60);
            x.layCourse(0, 0, 0, 3, 4);
            x.layCourse(0, 1, 0, 40, 9);
            due.answers("width " + width + ", 8 against 8 in the middle", 2, () -> x.tears(0, 4));
            x.setWeather(0, 0, 4);
            due.answers("width " + width + ", in a month", 2, () -> x.pass(1));
            for (int place = 0; place < width; place++) {
                due.told(x, 0, 0, place, place == 0 || place == width - 1 ? 0 : 1);
                due.told(x, 0, 1, place, 1);
            }
            ThatchRoof held = Villages.withRoof(width, 2, 60);
            held.layCourse(0, 0, 0, 8, 4);
            held.layCourse(0, 1, 0, 40, 9);
            due.answers("width " + width + ", 10 against 10", 0, () -> held.tears(0, 4));
        }
        ThatchRoof both = Villages.withRoof(3, 2, 60);
        both.lay(0, 0, 0, 0, 3, 2);
        both.lay(0, 0, 2, 0, 4, 2);
        due.answers("bare at an end: 5 against 4, and against 5", 1, () -> both.pass(1));
        due.told(both, 0, 0, 0, 0);
        due.told(both, 0, 0, 2, 1);
    }

    /** A 3 without spars in the highest course, not at an end, so that the ridge alone holds it. */
    private void heldByRidge() {
        ThatchRoof x = Villages.withRoof(3, 2, 60);
        x.lay(0, 0, 1, 0, 3, 9);
        x.lay(0, 1, 1, 0, 3, 0);
        x.build(3, 2, 60);
        x.lay(1, 0, 1, 0, 3, 0);
        x.lay(1, 1, 1, 0, 3, 9);
        due.answers("4 against 100 / 20", 0, () -> x.tears(0, 2));
        due.answers("6 against 100 / 20", 1, () -> x.tears(0, 3));
        due.answers("no ridge holds what is lower", 1, () -> x.tears(1, 1));
        x.pass(20);
        due.answers("4 against 80 / 20", 0, () -> x.tears(0, 2));
        x.pass(1);
        due.answers("4 against 79 / 20", 1, () -> x.tears(0, 2));
        x.pass(19);
        due.answers("2 against 60 / 20, 40 / 20", 0, () -> x.tears(0, 1));
        x.pass(20);
        due.answers("2 against 40 / 20", 0, () -> x.tears(0, 1));
        x.pass(1);
        due.answers("2 against 39 / 20", 1, () -> x.tears(0, 1));
        x.pass(39);
        due.answers("0 against 0", 0, () -> x.tears(0, 0));
        x.bind(0);
        due.answers("4 against 5 again", 0, () -> x.tears(0, 2));
    }

    /** 6 against 6 as long as it is covered; its cover goes in the same storm, and 9 against 6 are in the next. */
    private void lookedAtAheadOfStorm() {
        ThatchRoof x = Villages.withRoof(3, 2, 60);
        x.lay(0, 0, 1, 0, 3, 3);
        x.lay(0, 1, 1, 0, 3, 0);
        Villages.weather(x, 0, 3);
        due.answers("would tear", 1, () -> x.tears(0, 3));
        due.answers("the cover", 1, () -> x.pass(1));
        due.told(x, 0, 0, 1, 1, 0, 3, 3, 0, 1);
        due.told(x, 0, 1, 1, 0);
        due.answers("would tear", 1, () -> x.tears(0, 3));
        due.answers("the bare one", 1, () -> x.pass(1));
        due.told(x, 0, 0, 1, 0);
        due.answers("torn", 2, () -> x.roof(0, 7));
    }

    private void othersStay() {
        ThatchRoof x = Villages.withRoof(3, 4, 60);
        x.lay(0, 0, 1, 0, 3, 0);
        x.lay(0, 1, 1, 1, 30, 9);
        x.lay(0, 2, 1, 2, 3, 0);
        x.lay(0, 3, 1, 0, 40, 9);
        x.setWeather(0, 0, 1);
        due.answers("two of four", 2, () -> x.pass(1));
        due.told(x, 0, 0, 1, 0, -1, 0, 0, 0, 0);
        due.told(x, 0, 1, 1, 1, 1, 29, 9, 0, 1);
        due.told(x, 0, 2, 1, 0, -1, 0, 0, 0, 0);
        due.told(x, 0, 3, 1, 1, 0, 40, 9, 0, 0);
        due.answers("yealms left", 2, () -> x.roof(0, 4));
        due.answers("laid anew below another", 1, () -> x.lay(0, 0, 1, 0, 3, 0));
        due.told(x, 0, 0, 1, 1, 0, 3, 0, 0, 0);
    }

    /** The storm sees what the rain has thinned and laid bare, and the ridge as it was ahead of it. */
    private void stormBehindRain() {
        ThatchRoof x = Villages.withRoof(4, 2, 60);
        x.lay(0, 0, 1, 0, 3, 1);
        x.lay(0, 1, 1, 1, 1, 9);
        x.lay(0, 0, 2, 0, 3, 1);
        x.lay(0, 1, 2, 1, 2, 9);
        due.answers("one wears away, and the one below is torn", 2, () -> x.pass(1));
        due.answers("torn", 1, () -> x.roof(0, 7));
        due.answers("worn", 1, () -> x.roof(0, 8));
        due.told(x, 0, 0, 2, 1);

        ThatchRoof thinned = Villages.withRoof(4, 2, 60);
        thinned.lay(0, 0, 1, 1, 8, 0);
        thinned.lay(0, 0, 2, 1, 9, 0);
        thinned.layCourse(0, 1, 0, 40, 9);
        thinned.setWeather(0, 0, 1);
        due.answers("2 against 7 / 4, and against 8 / 4", 1, () -> thinned.pass(1));
        due.told(thinned, 0, 0, 1, 0);
        due.told(thinned, 0, 0, 2, 1);

        ThatchRoof ridged = Villages.withRoof(3, 2, 60);
        ridged.lay(0, 0, 1, 0, 40, 9);
        ridged.lay(0, 1, 1, 0, 4, 0);
        ridged.setWeather(0, 0, 3);
        ridged.setWeather(1, 0, 3);
        due.answers("6 against 1 and 100 / 20", 0, () -> ridged.pass(1));
        due.answers("6 against 1 and 96 / 20", 1, () -> ridged.pass(1));
    }

    // ---- 4. the ridge, and the month

    private void ridgeAndMonth() {
        due.sentence("The ridge loses storm, and 1 more in each month (at least 0)", this::ridgeAtLeast0);
        due.sentence("Behind all roofs: the month is 1 greater", this::oneMonthForAllRoofs);
    }

    private void ridgeAtLeast0() {
        int[] storms = {0, 9, 5};
        int[] months = {99, 9, 16};
        int[] left = {1, 10, 4};
        for (int i = 0; i < storms.length; i++) {
            ThatchRoof x = Villages.withRoof(2, 2, 45);
            Villages.weather(x, 0, storms[i]);
            x.pass(months[i]);
            due.answers("storm " + storms[i], left[i], () -> x.roof(0, 3));
            x.pass(1);
            due.answers("storm " + storms[i] + ", at last", 0, () -> x.roof(0, 3));
            x.pass(1);
            due.answers("storm " + storms[i] + ", at least", 0, () -> x.roof(0, 3));
            due.answers("bound again", 0, () -> x.bind(0));
            due.answers("bound again", 100, () -> x.roof(0, 3));
        }
    }

    private void oneMonthForAllRoofs() {
        ThatchRoof x = Villages.calm();
        for (int roof = 0; roof < 6; roof++) {
            x.build(2, 2, 45);
        }
        x.setWeather(0, 0, 3);
        x.pass(1);
        for (int roof = 0; roof < 6; roof++) {
            int r = roof;
            due.answers("the ridge of " + roof, 96, () -> x.roof(r, 3));
        }
        due.answers("the month", 1, () -> x.count(0));
    }

    // ---- leaks

    private void leaks() {
        due.sentence("together a thickness of less than 8 * its courses", this::leaksBelow8EachCourse);
        due.sentence("or if there is none in its highest course", this::leaksWithoutHighest);
        due.sentence("A roof leaks at a place (of its width)", this::leaksPlaceByPlace);
    }

    private void leaksBelow8EachCourse() {
        for (int courses = 2; courses <= 6; courses++) {
            ThatchRoof x = Villages.withRoof(3, courses, 45);
            for (int course = 0; course < courses; course++) {
                x.lay(0, course, 0, 0, 8, 0);
                x.lay(0, course, 1, 0, course == 0 ? 7 : 8, 0);
                x.lay(0, course, 2, 0, course == courses - 1 ? 9 : 8, 0);
            }
            due.answers("8 * " + courses + ", 1 less, and 1 more", 1, () -> x.roof(0, 6));
            x.mend(0, 0, 1);
            due.answers("all have enough", 0, () -> x.roof(0, 6));
        }
        ThatchRoof gap = Villages.withRoof(2, 2, 60);
        gap.lay(0, 0, 0, 0, 3, 0);
        gap.lay(0, 1, 0, 0, 16, 9);
        gap.setWeather(0, 0, 1);
        gap.pass(1);
        due.told(gap, 0, 0, 0, 0);
        due.answers("16 in the highest alone", 1, () -> gap.roof(0, 6));
    }

    private void leaksWithoutHighest() {
        ThatchRoof x = Villages.withRoof(2, 6, 45);
        for (int course = 0; course < 5; course++) {
            x.layCourse(0, course, 0, 40, 9);
        }
        due.answers("200 of 48, but none in the highest", 2, () -> x.roof(0, 6));
        x.lay(0, 5, 1, 0, 1, 9);
        due.answers("a 1 in the highest is enough", 1, () -> x.roof(0, 6));
    }

    private void leaksPlaceByPlace() {
        ThatchRoof x = Villages.withRoof(10, 6, 45);
        due.answers("each place once, if nothing is there", 10, () -> x.roof(0, 6));
        for (int course = 0; course < 6; course++) {
            x.lay(0, course, 9, 0, 40, 9);
        }
        due.answers("each but the last", 9, () -> x.roof(0, 6));
        due.answers("and of all roofs", 9, () -> x.count(6));
    }

    // ---- exceptions

    private void exceptions() {
        due.sentence("A method that throws an exception changes nothing", this::refusedCallsChangeNothing);
        due.sentence("If several exceptions apply, the one that is named first is thrown", this::namedFirst);
    }

    private static ThatchRoof lived() {
        ThatchRoof x = new ThatchRoof();
        x.bring(0, 400);
        x.bring(1, 2);
        x.bring(2, 500);
        x.build(3, 3, 35);
        x.build(2, 2, 50);
        x.layCourse(0, 0, 0, 30, 4);
        x.lay(0, 1, 1, 1, 3, 2);
        x.layCourse(1, 0, 2, 20, 1);
        x.setWeather(0, 7, 2);
        x.setWeather(1, 5, 1);
        x.pass(1);
        return x;
    }

    /** Each wrong way of a call, on one of two villages that are alike: they stay alike, in months to come too. */
    private void refusedCallsChangeNothing() {
        ThatchRoof x = lived();
        ThatchRoof twin = lived();
        due.refuses(x, "build", ARGUMENT, () -> x.build(3, 7, 40));
        due.refuses(x, "bring no kind", INDEX, () -> x.bring(3, 1));
        due.refuses(x, "bring none", ARGUMENT, () -> x.bring(0, 0));
        due.refuses(x, "bring too many", STATE, () -> x.bring(0, 500));
        due.refuses(x, "setWeather of no month", INDEX, () -> x.setWeather(12, 0, 0));
        due.refuses(x, "setWeather with good rain and a wrong storm", ARGUMENT, () -> x.setWeather(1, 0, 10));
        due.refuses(x, "setWeather with wrong rain and a good storm", ARGUMENT, () -> x.setWeather(1, 10, 0));
        due.refuses(x, "lay nowhere", INDEX, () -> x.lay(0, 0, 3, 0, 1, 0));
        due.refuses(x, "lay nothing", ARGUMENT, () -> x.lay(0, 1, 0, 0, 0, 0));
        due.refuses(x, "lay on another", STATE, () -> x.lay(0, 0, 0, 2, 40, 9));
        due.refuses(x, "lay on none", STATE, () -> x.lay(0, 2, 0, 2, 40, 9));
        due.refuses(x, "lay with too few bundles", STATE, () -> x.lay(0, 1, 0, 1, 8, 9));
        due.refuses(x, "layCourse nowhere", INDEX, () -> x.layCourse(0, 3, 0, 1, 0));
        due.refuses(x, "layCourse of nothing", ARGUMENT, () -> x.layCourse(0, 1, 0, 41, 0));
        due.refuses(x, "mend nowhere", INDEX, () -> x.mend(2, 0, 0));
        due.refuses(x, "mend nothing", STATE, () -> x.mend(0, 2, 2));
        due.refuses(x, "mend with too few bundles", STATE, () -> x.mend(0, 1, 1));
        due.refuses(x, "bind nothing", INDEX, () -> x.bind(2));
        due.refuses(x, "yealm", INDEX, () -> x.yealm(0, 0, 0, 6));
        due.refuses(x, "roof", INDEX, () -> x.roof(0, 9));
        due.refuses(x, "count", INDEX, () -> x.count(9));
        due.refuses(x, "pass", ARGUMENT, () -> x.pass(121));
        due.refuses(x, "tears", ARGUMENT, () -> x.tears(0, 10));
        due.refuses(x, "holds", INDEX, () -> x.holds(2));
        due.refuses(x, "foresee", ARGUMENT, () -> x.foresee(0, 61, 0));
        due.refuses(x, "advise", ARGUMENT, () -> x.advise(0, 25));
        due.refuses(x, "needs", ARGUMENT, () -> x.needs(0, 41));
        for (int i = 0; i < 8; i++) {
            due.same("their digests", x.digest(), twin.digest());
            due.same("their advice", x.advise(0, 24), twin.advise(0, 24));
            due.same("their hold", x.holds(1), twin.holds(1));
            due.same("what they lose", x.pass(1), twin.pass(1));
        }
    }

    private void namedFirst() {
        ThatchRoof x = lived();
        due.refuses(x, "bring: kind, many", INDEX, () -> x.bring(3, 0));
        due.refuses(x, "bring: many, the barn", ARGUMENT, () -> x.bring(2, 501));
        due.refuses(x, "bring: kind, many, the barn", INDEX, () -> x.bring(-1, 501));
        due.refuses(x, "setWeather: month, rain", INDEX, () -> x.setWeather(12, 10, 0));
        due.refuses(x, "setWeather: month, storm", INDEX, () -> x.setWeather(-1, 0, -1));
        due.refuses(x, "lay: roof, thickness", INDEX, () -> x.lay(2, 0, 0, 0, 0, 0));
        due.refuses(x, "lay: course, spars", INDEX, () -> x.lay(0, 3, 0, 0, 1, 10));
        due.refuses(x, "lay: place, thickness", INDEX, () -> x.lay(0, 0, 3, 0, 41, 0));
        due.refuses(x, "lay: kind, spars", INDEX, () -> x.lay(0, 1, 0, 3, 1, -1));
        due.refuses(x, "lay: kind, a yealm there", INDEX, () -> x.lay(0, 0, 0, 3, 1, 0));
        due.refuses(x, "lay: kind, none below", INDEX, () -> x.lay(0, 2, 0, -1, 1, 0));
        due.refuses(x, "lay: thickness, a yealm there", ARGUMENT, () -> x.lay(0, 0, 0, 0, 41, 0));
        due.refuses(x, "lay: spars, none below", ARGUMENT, () -> x.lay(0, 2, 0, 0, 1, 10));
        due.refuses(x, "lay: spars, too few bundles", ARGUMENT, () -> x.lay(0, 1, 0, 1, 40, 10));
        due.refuses(x, "layCourse: roof, thickness", INDEX, () -> x.layCourse(2, 0, 0, 0, 0));
        due.refuses(x, "layCourse: course, spars", INDEX, () -> x.layCourse(0, -1, 0, 1, 10));
        due.refuses(x, "layCourse: kind, thickness", INDEX, () -> x.layCourse(0, 0, 3, 41, 0));
        due.refuses(x, "tears: roof, storm", INDEX, () -> x.tears(2, 10));
        due.refuses(x, "foresee: roof, months", INDEX, () -> x.foresee(2, 61, 0));
        due.refuses(x, "foresee: what, months", INDEX, () -> x.foresee(0, 0, 3));
        due.refuses(x, "advise: roof, months", INDEX, () -> x.advise(2, 0));
        due.refuses(x, "needs: roof, thickness", INDEX, () -> x.needs(-1, 41));
        for (int roof = 2; roof < 6; roof++) {
            x.build(2, 2, 30);
        }
        due.refuses(x, "build: the shape, 6 roofs", ARGUMENT, () -> x.build(11, 2, 30));
    }
}
