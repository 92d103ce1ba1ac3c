/** The edges that the promises name, sentence by sentence, of the calls that change something: 1 to 8, and 12. */
public final class CallsEdgeTest {
    private static final Class<IndexOutOfBoundsException> INDEX = IndexOutOfBoundsException.class;
    private static final Class<IllegalArgumentException> ARGUMENT = IllegalArgumentException.class;
    private static final Class<IllegalStateException> STATE = IllegalStateException.class;
    private static final int LEAST = Integer.MIN_VALUE;
    private static final int MOST = Integer.MAX_VALUE;

    private final Due due = new Due();

    public static void main(String[] args) {
        CallsEdgeTest test = new CallsEdgeTest();
        test.aNewObject();
        test.build();
        test.bring();
        test.setWeather();
        test.lay();
        test.layCourse();
        test.mend();
        test.bind();
        test.pass();
        test.due.end("CallsEdgeTest");
    }

    /** No roof that is not there: as long as there are two. */
    private static final int[] NO_ROOFS = {-1, 2, 5, 6, LEAST, MOST};

    /** Two roofs, of 3 places and 2 courses, and of 2 places and 4 courses. */
    private static ThatchRoof twoRoofs() {
        ThatchRoof x = Villages.calm();
        x.build(3, 2, 45);
        x.build(2, 4, 45);
        return x;
    }

    // ---- Promise 1

    private void aNewObject() {
        due.sentence("1: Creates a village without roofs, in the month 0", this::withoutRoofs);
    }

    private void withoutRoofs() {
        ThatchRoof x = new ThatchRoof();
        due.answers("the month", 0, () -> x.count(0));
        due.answers("roofs", 0, () -> x.count(1));
        due.answers("yealms", 0, () -> x.count(5));
        due.answers("leaks", 0, () -> x.count(6));
        due.answers("a month without roofs", 0, () -> x.pass(1));
        due.refuses(x, "lay", INDEX, () -> x.lay(0, 0, 0, 0, 1, 0));
        due.refuses(x, "layCourse", INDEX, () -> x.layCourse(0, 0, 0, 1, 0));
        due.refuses(x, "mend", INDEX, () -> x.mend(0, 0, 0));
        due.refuses(x, "bind", INDEX, () -> x.bind(0));
        due.refuses(x, "yealm", INDEX, () -> x.yealm(0, 0, 0, 0));
        due.refuses(x, "roof", INDEX, () -> x.roof(0, 0));
        due.refuses(x, "tears", INDEX, () -> x.tears(0, 0));
        due.refuses(x, "holds", INDEX, () -> x.holds(0));
        due.refuses(x, "foresee", INDEX, () -> x.foresee(0, 1, 0));
        due.refuses(x, "advise", INDEX, () -> x.advise(0, 1));
        due.refuses(x, "needs", INDEX, () -> x.needs(0, 1));
    }

    // ---- Promise 2

    private void build() {
        due.sentence("2: if width is not 2 to 10", () -> shapes(0, 2, 10));
        due.sentence("2: courses is not 2 to 6", () -> shapes(1, 2, 6));
        due.sentence("2: or slope is not 30 to 60", () -> shapes(2, 30, 60));
        due.sentence("2: IllegalStateException if there are 6", this::sixRoofs);
        due.sentence("2: Builds a roof without thatch. Returns its number", this::withoutThatch);
    }

    /** One measure of a shape, from its least to its most, and outside of both. */
    private void shapes(int which, int least, int most) {
        for (int measure : new int[] {least, least + 1, most - 1, most}) {
            ThatchRoof x = new ThatchRoof();
            int[] shape = {4, 3, 40};
            shape[which] = measure;
            due.answers("build with " + measure, 0, () -> x.build(shape[0], shape[1], shape[2]));
            due.answers("build with " + measure, measure, () -> x.roof(0, which));
        }
        for (int measure : new int[] {least - 1, most + 1, 0, -least, LEAST, MOST}) {
            ThatchRoof x = new ThatchRoof();
            int[] shape = {4, 3, 40};
            shape[which] = measure;
            due.refuses(x, "build with " + measure, ARGUMENT, () -> x.build(shape[0], shape[1], shape[2]));
            due.answers("no roof by it", 0, () -> x.count(1));
        }
    }

    private void sixRoofs() {
        ThatchRoof x = new ThatchRoof();
        for (int roof = 0; roof < 6; roof++) {
            due.answers("the number", roof, () -> x.build(2, 2, 30));
        }
        due.refuses(x, "a seventh", STATE, () -> x.build(2, 2, 30));
        due.refuses(x, "a seventh", STATE, () -> x.build(10, 6, 60));
        due.answers("roofs", 6, () -> x.count(1));
    }

    private void withoutThatch() {
        ThatchRoof x = Villages.thatched(10, 2, 60);
        due.answers("the number", 1, () -> x.build(10, 6, 60));
        due.answers("yealms", 0, () -> x.roof(1, 4));
        due.answers("leaks", 10, () -> x.roof(1, 6));
        due.told(x, 1, 0, 0, 0, -1, 0, 0, 0, 0);
        due.told(x, 1, 5, 9, 0, -1, 0, 0, 0, 0);
    }

    // ---- Promise 3

    private void bring() {
        due.sentence("3: if kind is not 0 to 2", this::bringKinds);
        due.sentence("3: if many is not 1 to 500", this::bringMany);
        due.sentence("3: if there would be more than 500", this::bringNoMoreThan500);
        due.sentence("3: Returns how many of it there are", this::bringReturns);
    }

    private void bringKinds() {
        ThatchRoof x = new ThatchRoof();
        for (int kind : new int[] {-1, 3, LEAST, MOST}) {
            due.refuses(x, "kind " + kind, INDEX, () -> x.bring(kind, 1));
        }
        due.answers("kind 0", 1, () -> x.bring(0, 1));
        due.answers("kind 2", 1, () -> x.bring(2, 1));
    }

    private void bringMany() {
        ThatchRoof x = new ThatchRoof();
        for (int many : new int[] {0, 501, -1, LEAST, MOST}) {
            due.refuses(x, many + " bundles", ARGUMENT, () -> x.bring(1, many));
        }
        due.answers("500", 500, () -> x.bring(1, 500));
        due.answers("1", 1, () -> x.bring(0, 1));
    }

    private void bringNoMoreThan500() {
        for (int kind = 0; kind < 3; kind++) {
            int k = kind;
            ThatchRoof x = new ThatchRoof();
            x.bring(k, 250);
            due.refuses(x, "501", STATE, () -> x.bring(k, 251));
            due.answers("just 500", 500, () -> x.bring(k, 250));
            due.refuses(x, "501", STATE, () -> x.bring(k, 1));
            due.answers("another kind", 500, () -> x.bring((k + 1) % 3, 500));
            x.build(2, 2, 45);
            x.lay(0, 0, 0, k, 1, 0);
            due.answers("500 again, when one is used", 500, () -> x.bring(k, 1));
        }
    }

    private void bringReturns() {
        ThatchRoof x = new ThatchRoof();
        due.answers("3", 3, () -> x.bring(0, 3));
        due.answers("and 4", 7, () -> x.bring(0, 4));
        due.answers("not of another kind", 5, () -> x.bring(1, 5));
        due.answers("reed", 7, () -> x.count(2));
        due.answers("straw", 5, () -> x.count(3));
        due.answers("heather", 0, () -> x.count(4));
    }

    // ---- Promise 4

    private void setWeather() {
        due.sentence("4: if month is not 0 to 11", this::weatherMonths);
        due.sentence("4: if rain or storm is not 0 to 9", this::weatherNumbers);
        due.sentence("4: Returns 10 * the rain and the storm before", this::weatherBefore);
    }

    private void weatherMonths() {
        ThatchRoof x = new ThatchRoof();
        for (int month : new int[] {-1, 12, LEAST, MOST}) {
            due.refuses(x, "month " + month, INDEX, () -> x.setWeather(month, 4, 0));
        }
        due.answers("month 0", 40, () -> x.setWeather(0, 1, 1));
        due.answers("month 11", 40, () -> x.setWeather(11, 2, 2));
        x.pass(11);
        due.answers("rain of the year's last", 2, () -> x.count(7));
    }

    private void weatherNumbers() {
        ThatchRoof x = new ThatchRoof();
        for (int wrong : new int[] {-1, 10, LEAST, MOST}) {
            due.refuses(x, "rain " + wrong, ARGUMENT, () -> x.setWeather(0, wrong, 0));
            due.refuses(x, "storm " + wrong, ARGUMENT, () -> x.setWeather(0, 0, wrong));
        }
        due.answers("rain 9", 40, () -> x.setWeather(0, 9, 0));
        due.answers("storm 9", 90, () -> x.setWeather(0, 0, 9));
        due.answers("neither", 9, () -> x.setWeather(0, 0, 0));
    }

    private void weatherBefore() {
        ThatchRoof x = new ThatchRoof();
        due.answers("at first", 40, () -> x.setWeather(5, 3, 7));
        due.answers("then", 37, () -> x.setWeather(5, 7, 3));
        due.answers("then", 73, () -> x.setWeather(5, 9, 9));
        due.answers("both at the most", 99, () -> x.setWeather(5, 0, 0));
        due.answers("both at the least", 0, () -> x.setWeather(5, 0, 0));
        due.answers("another month is as it was", 40, () -> x.setWeather(4, 0, 0));
    }

    // ---- Promise 5

    private void lay() {
        due.sentence("5: for each full 4 of its thickness, and 1 more, a bundle comes from the barn",
                this::bundlesForEachThickness);
        due.sentence("5: if there is no such roof, course or place", this::layNowhere);
        due.sentence("5: or kind is not 0 to 2", this::layKinds);
        due.sentence("5: if thickness is not 1 to 40", this::layThicknesses);
        due.sentence("5: or spars is not 0 to 9", this::laySpars);
        due.sentence("5: IllegalStateException if there is a yealm", this::layWhereOneIs);
        due.sentence("5: the course is not 0 and there is none below it at this place", this::layWhereNoneIsBelow);
        due.sentence("5: or there are not so many bundles", this::layWithTooFew);
    }

    private void bundlesForEachThickness() {
        for (int thickness = 1; thickness <= 40; thickness++) {
            int t = thickness;
            int want = t < 4 ? 1 : t < 8 ? 2 : t < 12 ? 3 : t < 16 ? 4 : t < 20 ? 5 : t < 24 ? 6 : t < 28 ? 7
                    : t < 32 ? 8 : t < 36 ? 9 : t < 40 ? 10 : 11;
            for (int kind = 0; kind < 3; kind++) {
                int k = kind;
                ThatchRoof x = twoRoofs();
                due.answers("for a " + t, want, () -> x.lay(0, 0, 0, k, t, 0));
                due.answers("left of it", 500 - want, () -> x.count(2 + k));
                due.answers("of another kind", 500, () -> x.count(2 + (k + 1) % 3));
            }
        }
    }

    private void layNowhere() {
        ThatchRoof x = twoRoofs();
        for (int roof : NO_ROOFS) {
            due.refuses(x, "roof " + roof, INDEX, () -> x.lay(roof, 0, 0, 0, 1, 0));
        }
        for (int course : new int[] {-1, 2, LEAST, MOST}) {
            due.refuses(x, "course " + course, INDEX, () -> x.lay(0, course, 0, 0, 1, 0));
        }
        for (int place : new int[] {-1, 3, LEAST, MOST}) {
            due.refuses(x, "place " + place, INDEX, () -> x.lay(0, 0, place, 0, 1, 0));
        }
        due.refuses(x, "place 2 of the narrow one", INDEX, () -> x.lay(1, 0, 2, 0, 1, 0));
        due.refuses(x, "course 4 of the high one", INDEX, () -> x.lay(1, 4, 0, 0, 1, 0));
        due.answers("the last place", 1, () -> x.lay(0, 0, 2, 0, 1, 0));
        due.answers("in the highest course", 1, () -> x.lay(0, 1, 2, 0, 1, 0));
        for (int course = 0; course < 4; course++) {
            int c = course;
            due.answers("the high one", 1, () -> x.lay(1, c, 1, 0, 1, 0));
        }
    }

    private void layKinds() {
        ThatchRoof x = twoRoofs();
        for (int kind : new int[] {-1, 3, LEAST, MOST}) {
            due.refuses(x, "kind " + kind, INDEX, () -> x.lay(0, 0, 0, kind, 1, 0));
        }
        for (int kind = 0; kind < 3; kind++) {
            int k = kind;
            due.answers("kind " + k, 1, () -> x.lay(0, 0, k, k, 1, 0));
            due.told(x, 0, 0, k, 1, k);
        }
    }

    private void layThicknesses() {
        ThatchRoof x = twoRoofs();
        for (int thickness : new int[] {0, 41, -1, LEAST, MOST}) {
            due.refuses(x, "thickness " + thickness, ARGUMENT, () -> x.lay(0, 0, 0, 0, thickness, 0));
        }
        due.answers("thickness 1", 1, () -> x.lay(0, 0, 0, 0, 1, 0));
        due.answers("thickness 40", 11, () -> x.lay(0, 0, 1, 0, 40, 0));
    }

    private void laySpars() {
        ThatchRoof x = twoRoofs();
        for (int spars : new int[] {-1, 10, LEAST, MOST}) {
            due.refuses(x, "spars " + spars, ARGUMENT, () -> x.lay(0, 0, 0, 0, 1, spars));
        }
        x.lay(0, 0, 0, 0, 1, 0);
        x.lay(0, 0, 1, 0, 1, 9);
        due.told(x, 0, 0, 0, 1, 0, 1, 0);
        due.told(x, 0, 0, 1, 1, 0, 1, 9);
    }

    private void layWhereOneIs() {
        ThatchRoof x = twoRoofs();
        x.lay(0, 0, 1, 1, 5, 2);
        due.refuses(x, "in course 0", STATE, () -> x.lay(0, 0, 1, 0, 40, 9));
        x.lay(0, 1, 1, 1, 5, 2);
        due.refuses(x, "over another", STATE, () -> x.lay(0, 1, 1, 0, 40, 9));
        due.told(x, 0, 0, 1, 1, 1, 5, 2);
        due.answers("beside it", 11, () -> x.lay(0, 0, 0, 0, 40, 9));
        due.answers("on another roof", 11, () -> x.lay(1, 0, 1, 0, 40, 9));
        x.setWeather(0, 0, 9);
        x.pass(1);
        due.told(x, 0, 0, 1, 0);
        due.answers("where it was torn off", 11, () -> x.lay(0, 0, 1, 2, 40, 9));
    }

    private void layWhereNoneIsBelow() {
        ThatchRoof x = twoRoofs();
        due.refuses(x, "an empty roof", STATE, () -> x.lay(1, 1, 0, 0, 1, 0));
        x.lay(1, 0, 1, 0, 1, 0);
        due.refuses(x, "one below, at the next place", STATE, () -> x.lay(1, 1, 0, 0, 1, 0));
        x.lay(1, 0, 0, 0, 1, 9);
        due.refuses(x, "one two courses below", STATE, () -> x.lay(1, 2, 0, 0, 1, 0));
        due.answers("in course 1", 11, () -> x.lay(1, 1, 0, 0, 40, 9));
        x.lay(1, 2, 0, 0, 3, 0);
        x.lay(1, 3, 0, 0, 40, 9);
        x.setWeather(0, 0, 1);
        x.pass(1);
        due.told(x, 1, 2, 0, 0);
        due.told(x, 1, 3, 0, 1);
        due.answers("between two", 1, () -> x.lay(1, 2, 0, 0, 3, 9));
        ThatchRoof torn = Villages.withRoof(3, 3, 45);
        torn.lay(0, 0, 1, 0, 3, 0);
        torn.lay(0, 1, 1, 0, 40, 9);
        torn.setWeather(0, 0, 1);
        torn.pass(1);
        due.told(torn, 0, 0, 1, 0);
        due.answers("on one that has lost what was below it", 1, () -> torn.lay(0, 2, 1, 0, 3, 0));
    }

    private void layWithTooFew() {
        for (int kind = 0; kind < 3; kind++) {
            int k = kind;
            ThatchRoof x = new ThatchRoof();
            x.build(3, 2, 45);
            x.bring((k + 1) % 3, 500);
            x.bring((k + 2) % 3, 500);
            due.refuses(x, "0 of 1", STATE, () -> x.lay(0, 0, 0, k, 1, 0));
            x.bring(k, 10);
            due.refuses(x, "10 of 11", STATE, () -> x.lay(0, 0, 0, k, 40, 0));
            x.bring(k, 1);
            due.answers("11 of 11", 11, () -> x.lay(0, 0, 0, k, 40, 0));
            due.answers("none is left", 0, () -> x.count(2 + k));
            due.refuses(x, "0 of 1", STATE, () -> x.lay(0, 0, 1, k, 1, 0));
        }
    }

    // ---- Promise 6

    private void layCourse() {
        due.sentence("6: where there is none yet", this::courseWhereNoneIs);
        due.sentence("6: and one below it (or it is the course 0)", this::courseWhereOneIsBelow);
        due.sentence("6: place by place .. as long as there are bundles for a yealm", this::courseWithFewBundles);
        due.sentence("6: as by lay()", this::courseAsByLay);
        due.sentence("6: if there is no such roof or course", this::courseNowhere);
        due.sentence("6: or kind is not 0 to 2", this::courseKinds);
        due.sentence("6: if thickness is not 1 to 40", this::courseThicknesses);
        due.sentence("6: or spars is not 0 to 9", this::courseSpars);
    }

    private void courseWhereNoneIs() {
        ThatchRoof x = Villages.withRoof(5, 2, 45);
        x.lay(0, 0, 0, 1, 7, 2);
        x.lay(0, 0, 2, 1, 7, 2);
        x.lay(0, 0, 4, 1, 7, 2);
        due.answers("two of five", 2, () -> x.layCourse(0, 0, 0, 20, 5));
        for (int place = 0; place < 5; place++) {
            due.told(x, 0, 0, place, 1, place % 2 == 0 ? 1 : 0, place % 2 == 0 ? 7 : 20, place % 2 == 0 ? 2 : 5);
        }
        due.answers("a full course", 0, () -> x.layCourse(0, 0, 0, 20, 5));
        due.answers("6 bundles for each", 488, () -> x.count(2));
    }

    private void courseWhereOneIsBelow() {
        ThatchRoof x = Villages.withRoof(4, 3, 45);
        due.answers("nothing below", 0, () -> x.layCourse(0, 1, 0, 1, 0));
        x.lay(0, 0, 0, 0, 3, 0);
        x.lay(0, 0, 3, 0, 3, 0);
        due.answers("nothing below, but two courses below", 0, () -> x.layCourse(0, 2, 0, 1, 0));
        due.answers("where two are below", 2, () -> x.layCourse(0, 1, 0, 1, 0));
        due.told(x, 0, 1, 0, 1);
        due.told(x, 0, 1, 1, 0);
        due.told(x, 0, 1, 2, 0);
        due.told(x, 0, 1, 3, 1);
        due.answers("4 bundles", 496, () -> x.count(2));
        due.answers("course 0 needs none below", 2, () -> x.layCourse(0, 0, 0, 1, 0));
    }

    private void courseWithFewBundles() {
        ThatchRoof x = new ThatchRoof();
        x.build(4, 2, 45);
        x.bring(1, 500);
        x.bring(2, 500);
        due.answers("none at all", 0, () -> x.layCourse(0, 0, 0, 4, 0));
        x.bring(0, 1);
        due.answers("1 of 2", 0, () -> x.layCourse(0, 0, 0, 4, 0));
        due.answers("it stays", 1, () -> x.count(2));
        x.bring(0, 4);
        due.answers("5 of 8", 2, () -> x.layCourse(0, 0, 0, 4, 0));
        due.told(x, 0, 0, 0, 1);
        due.told(x, 0, 0, 1, 1);
        due.told(x, 0, 0, 2, 0);
        due.told(x, 0, 0, 3, 0);
        due.answers("1 is left", 1, () -> x.count(2));
        x.bring(0, 3);
        due.answers("4 of 4", 2, () -> x.layCourse(0, 0, 0, 4, 0));
        due.answers("none is left", 0, () -> x.count(2));
        due.answers("and none is needed", 0, () -> x.layCourse(0, 0, 0, 4, 0));
    }

    private void courseAsByLay() {
        for (int kind = 0; kind < 3; kind++) {
            int k = kind;
            ThatchRoof x = twoRoofs();
            ThatchRoof one = twoRoofs();
            due.answers("three of them", 3, () -> x.layCourse(0, 0, k, 39, 9));
            for (int place = 0; place < 3; place++) {
                one.lay(0, 0, place, k, 39, 9);
            }
            due.same("their digests", x.digest(), one.digest());
            due.answers("10 bundles for each", 470, () -> x.count(2 + k));
        }
    }

    private void courseNowhere() {
        ThatchRoof x = twoRoofs();
        for (int roof : NO_ROOFS) {
            due.refuses(x, "roof " + roof, INDEX, () -> x.layCourse(roof, 0, 0, 1, 0));
        }
        for (int course : new int[] {-1, 2, LEAST, MOST}) {
            due.refuses(x, "course " + course, INDEX, () -> x.layCourse(0, course, 0, 1, 0));
        }
        due.refuses(x, "course 4 of the high one", INDEX, () -> x.layCourse(1, 4, 0, 1, 0));
        for (int course = 0; course < 4; course++) {
            int c = course;
            due.answers("course " + c + " of the high one", 2, () -> x.layCourse(1, c, 0, 1, 0));
        }
    }

    private void courseKinds() {
        ThatchRoof x = twoRoofs();
        for (int kind : new int[] {-1, 3, LEAST, MOST}) {
            due.refuses(x, "kind " + kind, INDEX, () -> x.layCourse(0, 0, kind, 1, 0));
        }
        due.answers("kind 2", 3, () -> x.layCourse(0, 0, 2, 1, 0));
        due.answers("kind 0", 3, () -> x.layCourse(0, 1, 0, 1, 0));
    }

    private void courseThicknesses() {
        ThatchRoof x = twoRoofs();
        for (int thickness : new int[] {0, 41, -1, LEAST, MOST}) {
            due.refuses(x, "thickness " + thickness, ARGUMENT, () -> x.layCourse(0, 0, 0, thickness, 0));
            due.refuses(x, "even if none could be laid", ARGUMENT, () -> x.layCourse(0, 1, 0, thickness, 0));
        }
        due.answers("thickness 1", 3, () -> x.layCourse(0, 0, 0, 1, 0));
        due.answers("thickness 40", 3, () -> x.layCourse(0, 1, 0, 40, 0));
    }

    private void courseSpars() {
        ThatchRoof x = twoRoofs();
        for (int spars : new int[] {-1, 10, LEAST, MOST}) {
            due.refuses(x, "spars " + spars, ARGUMENT, () -> x.layCourse(0, 0, 0, 1, spars));
            due.refuses(x, "even if none could be laid", ARGUMENT, () -> x.layCourse(0, 1, 0, 1, spars));
        }
        due.answers("spars 0", 3, () -> x.layCourse(0, 0, 0, 1, 0));
        due.answers("spars 9", 3, () -> x.layCourse(0, 1, 0, 1, 9));
        due.told(x, 0, 0, 1, 1, 0, 1, 0);
        due.told(x, 0, 1, 1, 1, 0, 1, 9);
    }

    // ---- Promise 7

    private void mend() {
        due.sentence("7: it has no moss", this::mendMoss);
        due.sentence("7: 2 more spars (at most 9)", this::mendSpars);
        due.sentence("7: and is 10 thicker (at most 40)", this::mendThickness);
        due.sentence("7: if there is no such roof, course or place", this::mendNowhere);
        due.sentence("7: IllegalStateException if there is no yealm", this::mendNothing);
        due.sentence("7: or there are not so many bundles (3 of its kind)", this::mendWithTooFew);
    }

    private void mendMoss() {
        ThatchRoof x = Villages.thatched(3, 2, 44);
        Villages.weather(x, 5, 0);
        x.pass(9);
        due.told(x, 0, 1, 1, 1, 0, 31, 9, 9, 0);
        x.mend(0, 1, 1);
        due.told(x, 0, 1, 1, 1, 0, 40, 9, 0, 0);
        due.answers("the next one has its moss", 9, () -> x.yealm(0, 1, 2, 4));
        due.answers("the one below has its moss", 9, () -> x.yealm(0, 0, 1, 4));
    }

    private void mendSpars() {
        for (int spars = 0; spars <= 9; spars++) {
            ThatchRoof x = twoRoofs();
            x.lay(0, 0, 1, 0, 5, spars);
            x.mend(0, 0, 1);
            due.told(x, 0, 0, 1, 1, 0, 15, Math.min(spars + 2, 9));
        }
    }

    private void mendThickness() {
        for (int thickness = 1; thickness <= 40; thickness++) {
            int want = Math.min(thickness + 10, 40);
            ThatchRoof x = twoRoofs();
            x.lay(0, 0, 1, 0, thickness, 5);
            due.answers("a " + thickness, want, () -> x.mend(0, 0, 1));
            due.told(x, 0, 0, 1, 1, 0, want, 7);
        }
    }

    private void mendNowhere() {
        ThatchRoof x = twoRoofs();
        x.layCourse(0, 0, 0, 5, 0);
        x.layCourse(1, 0, 0, 5, 0);
        for (int roof : NO_ROOFS) {
            due.refuses(x, "roof " + roof, INDEX, () -> x.mend(roof, 0, 0));
        }
        for (int course : new int[] {-1, 2, LEAST, MOST}) {
            due.refuses(x, "course " + course, INDEX, () -> x.mend(0, course, 0));
        }
        for (int place : new int[] {-1, 3, LEAST, MOST}) {
            due.refuses(x, "place " + place, INDEX, () -> x.mend(0, 0, place));
        }
        due.refuses(x, "place 2 of the narrow one", INDEX, () -> x.mend(1, 0, 2));
        due.answers("the last place", 15, () -> x.mend(0, 0, 2));
        due.answers("of the narrow one too", 15, () -> x.mend(1, 0, 1));
    }

    private void mendNothing() {
        ThatchRoof x = twoRoofs();
        due.refuses(x, "on an empty roof", STATE, () -> x.mend(0, 0, 1));
        x.lay(0, 0, 1, 0, 3, 0);
        due.refuses(x, "above another", STATE, () -> x.mend(0, 1, 1));
        due.refuses(x, "beside another", STATE, () -> x.mend(0, 0, 2));
        x.setWeather(0, 0, 9);
        x.pass(1);
        due.refuses(x, "where it was torn off", STATE, () -> x.mend(0, 0, 1));
        x.lay(0, 0, 1, 1, 1, 9);
        x.pass(1);
        due.refuses(x, "where it wore away", STATE, () -> x.mend(0, 0, 1));
    }

    private void mendWithTooFew() {
        for (int kind = 0; kind < 3; kind++) {
            int k = kind;
            ThatchRoof x = new ThatchRoof();
            x.build(3, 2, 45);
            x.bring((k + 1) % 3, 500);
            x.bring((k + 2) % 3, 500);
            x.bring(k, 3);
            x.lay(0, 0, 1, k, 1, 0);
            due.refuses(x, "2 of 3", STATE, () -> x.mend(0, 0, 1));
            x.bring(k, 1);
            due.answers("3 of 3", 11, () -> x.mend(0, 0, 1));
            due.answers("none is left", 0, () -> x.count(2 + k));
            due.answers("of another kind", 500, () -> x.count(2 + (k + 1) % 3));
            due.answers("of the third kind", 500, () -> x.count(2 + (k + 2) % 3));
            due.refuses(x, "0 of 3", STATE, () -> x.mend(0, 0, 1));
        }
    }

    // ---- Promise 8

    private void bind() {
        due.sentence("8: it is 100 then .. Returns the ridge before", this::bindTo100);
        due.sentence("8: if there is no such roof", this::bindNothing);
        due.sentence("8: if there are not so many bundles (of heather, one for each place of its width)",
                this::bindWithTooFew);
    }

    private void bindTo100() {
        ThatchRoof x = twoRoofs();
        due.answers("a full one", 100, () -> x.bind(0));
        due.answers("it takes bundles too", 497, () -> x.count(4));
        x.pass(1);
        due.answers("99", 99, () -> x.bind(0));
        due.answers("it is 100", 100, () -> x.roof(0, 3));
        due.answers("the other one is not", 99, () -> x.roof(1, 3));
        x.pass(100);
        due.answers("0", 0, () -> x.bind(0));
        due.answers("it is 100", 100, () -> x.roof(0, 3));
        due.answers("the other one is not", 0, () -> x.roof(1, 3));
    }

    private void bindNothing() {
        ThatchRoof x = twoRoofs();
        for (int roof : NO_ROOFS) {
            due.refuses(x, "roof " + roof, INDEX, () -> x.bind(roof));
        }
        due.answers("the last one", 100, () -> x.bind(1));
        due.answers("2 bundles for it", 498, () -> x.count(4));
    }

    private void bindWithTooFew() {
        for (int width = 2; width <= 10; width++) {
            ThatchRoof x = new ThatchRoof();
            x.bring(0, 500);
            x.bring(1, 500);
            x.build(width, 3, 45);
            due.refuses(x, "none", STATE, () -> x.bind(0));
            x.bring(2, width - 1);
            due.refuses(x, "one too few for " + width, STATE, () -> x.bind(0));
            x.bring(2, 1);
            due.answers("just enough for " + width, 100, () -> x.bind(0));
            due.answers("no heather is left", 0, () -> x.count(4));
            due.answers("no reed is used", 500, () -> x.count(2));
            due.answers("no straw is used", 500, () -> x.count(3));
        }
    }

    // ---- Promise 12

    private void pass() {
        due.sentence("12: if months is not 1 to 120", this::passMonths);
        due.sentence("12: Returns how many yealms were torn off or wore away in them", this::passReturns);
    }

    private void passMonths() {
        ThatchRoof x = Villages.withRoof(2, 2, 45);
        for (int months : new int[] {0, 121, -1, LEAST, MOST}) {
            due.refuses(x, months + " months", ARGUMENT, () -> x.pass(months));
        }
        due.answers("1 month", 0, () -> x.pass(1));
        due.answers("the month", 1, () -> x.count(0));
        due.answers("120 months", 0, () -> x.pass(120));
        due.answers("the month", 121, () -> x.count(0));

        // rain of 9 in the last month of each year takes 2 of what is 20: it is gone behind the 120th month
        ThatchRoof once = decade();
        ThatchRoof nearly = decade();
        due.answers("120 months", 6, () -> once.pass(120));
        due.answers("119 months", 0, () -> nearly.pass(119));
        due.answers("the last of 120", 6, () -> nearly.pass(1));
        due.same("their digests", once.digest(), nearly.digest());
    }

    private static ThatchRoof decade() {
        ThatchRoof x = Villages.withRoof(3, 2, 45);
        x.layCourse(0, 0, 0, 20, 9);
        x.layCourse(0, 1, 0, 20, 9);
        x.setWeather(11, 9, 0);
        return x;
    }

    private void passReturns() {
        ThatchRoof x = twoRoofs();
        x.lay(0, 0, 1, 0, 3, 4);
        x.lay(1, 0, 0, 0, 3, 0);
        x.lay(1, 0, 1, 1, 2, 9);
        due.answers("one torn", 1, () -> x.pass(1));
        due.answers("one worn", 1, () -> x.pass(1));
        due.answers("none", 0, () -> x.pass(1));
        x.setWeather(3, 0, 9);
        due.answers("one torn, and two months more", 1, () -> x.pass(3));
        due.answers("torn off the first", 1, () -> x.roof(0, 7));
        due.answers("torn off the second", 1, () -> x.roof(1, 7));
        due.answers("worn of the second", 1, () -> x.roof(1, 8));
        due.answers("of roofs without thatch", 0, () -> x.pass(120));

        ThatchRoof both = twoRoofs();
        both.lay(0, 0, 1, 0, 3, 0);
        both.lay(1, 0, 0, 1, 1, 9);
        due.answers("one torn and one worn, of two roofs", 2, () -> both.pass(1));
        due.answers("nothing of earlier months", 0, () -> both.pass(1));
    }
}
