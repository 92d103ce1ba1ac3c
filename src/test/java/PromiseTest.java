/** The document's promises, one by one, with answers worked out by hand from its words. */
public final class PromiseTest {
    private static final Class<IndexOutOfBoundsException> INDEX = IndexOutOfBoundsException.class;
    private static final Class<IllegalArgumentException> ARGUMENT = IllegalArgumentException.class;
    private static final Class<IllegalStateException> STATE = IllegalStateException.class;
    private static final int LEAST = Integer.MIN_VALUE;
    private static final int MOST = Integer.MAX_VALUE;

    private final Due due = new Due();

    public static void main(String[] args) {
        PromiseTest test = new PromiseTest();
        test.aNewObject();
        test.build();
        test.bring();
        test.setWeather();
        test.lay();
        test.layCourse();
        test.mend();
        test.bind();
        test.yealm();
        test.roof();
        test.leaks();
        test.count();
        test.passRefuses();
        test.rain();
        test.rainOnBareAndStraw();
        test.mossThinsOut();
        test.mossGrows();
        test.storm();
        test.stormAndEnds();
        test.stormAndRidge();
        test.stormAndThickness();
        test.stepsOfAMonth();
        test.ridgeWears();
        test.monthsOfTheYear();
        test.tears();
        test.holds();
        test.holdsWithMossAndStraw();
        test.foresee();
        test.advise();
        test.adviseOrder();
        test.needs();
        test.mean();
        test.digest();
        test.due.end("PromiseTest");
    }

    private void aNewObject() {
        ThatchRoof x = new ThatchRoof();
        int[] want = {0, 0, 0, 0, 0, 0, 0, 4, 0};
        for (int what = 0; what < want.length; what++) {
            int asked = what;
            due.answers("new: count(" + what + ")", want[what], () -> x.count(asked));
        }
        due.same("new: mean()", x.mean(), 0.0);
        due.refuses(x, "new: roof(0, 0)", INDEX, () -> x.roof(0, 0));
        for (int m = 0; m < 12; m++) {
            int month = m;
            due.answers("new: setWeather(" + m + ", 4, 0)", 40, () -> x.setWeather(month, 4, 0));
        }
        ThatchRoof other = new ThatchRoof();
        other.bring(0, 5);
        due.answers("objects share no barn", 0, () -> x.count(2));
    }

    private void build() {
        ThatchRoof x = new ThatchRoof();
        int[][] wrong = {{1, 2, 30}, {11, 2, 30}, {2, 1, 30}, {2, 7, 30}, {2, 2, 29}, {2, 2, 61}, {LEAST, 2, 30},
            {MOST, 2, 30}, {2, LEAST, 30}, {2, MOST, 30}, {2, 2, LEAST}, {2, 2, MOST}, {-2, 2, 30}, {2, 0, 30}};
        for (int[] w : wrong) {
            due.refuses(x, "build of a wrong shape", ARGUMENT, () -> x.build(w[0], w[1], w[2]));
        }
        int[][] good = {{2, 2, 30}, {10, 2, 30}, {2, 6, 30}, {2, 2, 60}, {10, 6, 60}, {7, 3, 45}};
        for (int i = 0; i < good.length; i++) {
            int[] g = good[i];
            due.answers("build", i, () -> x.build(g[0], g[1], g[2]));
            int[] want = {g[0], g[1], g[2], 100, 0, 0, g[0], 0, 0};
            for (int what = 0; what < want.length; what++) {
                int roof = i;
                int asked = what;
                due.answers("roof(" + i + ", " + what + ")", want[what], () -> x.roof(roof, asked));
            }
            due.answers("roofs", i + 1, () -> x.count(1));
        }
        due.refuses(x, "a seventh roof", STATE, () -> x.build(2, 2, 30));
        due.refuses(x, "a wrong shape is named ahead of too many", ARGUMENT, () -> x.build(1, 2, 30));
    }

    private void bring() {
        ThatchRoof x = new ThatchRoof();
        due.refuses(x, "bring(-1, 1)", INDEX, () -> x.bring(-1, 1));
        due.refuses(x, "bring(3, 1)", INDEX, () -> x.bring(3, 1));
        due.refuses(x, "bring(MOST, 0)", INDEX, () -> x.bring(MOST, 0));
        due.refuses(x, "bring(0, 0)", ARGUMENT, () -> x.bring(0, 0));
        due.refuses(x, "bring(0, 501)", ARGUMENT, () -> x.bring(0, 501));
        due.refuses(x, "bring(0, LEAST)", ARGUMENT, () -> x.bring(0, LEAST));
        due.refuses(x, "bring(0, MOST)", ARGUMENT, () -> x.bring(0, MOST));
        for (int kind = 0; kind < 3; kind++) {
            int k = kind;
            due.answers("bring 1", 1, () -> x.bring(k, 1));
            due.refuses(x, "1 and 500", STATE, () -> x.bring(k, 500));
            due.answers("bring 499 more", 500, () -> x.bring(k, 499));
            due.refuses(x, "501", STATE, () -> x.bring(k, 1));
            due.refuses(x, "501 of them is named first", ARGUMENT, () -> x.bring(k, 501));
            due.answers("in the barn", 500, () -> x.count(2 + k));
        }
        ThatchRoof y = new ThatchRoof();
        due.answers("bring 500 at once", 500, () -> y.bring(1, 500));
        due.answers("no reed by it", 0, () -> y.count(2));
    }

    private void setWeather() {
        ThatchRoof x = new ThatchRoof();
        due.refuses(x, "setWeather(-1, 0, 0)", INDEX, () -> x.setWeather(-1, 0, 0));
        due.refuses(x, "setWeather(12, 0, 0)", INDEX, () -> x.setWeather(12, 0, 0));
        due.refuses(x, "setWeather(LEAST, 10, 10)", INDEX, () -> x.setWeather(LEAST, 10, 10));
        due.refuses(x, "setWeather(0, -1, 0)", ARGUMENT, () -> x.setWeather(0, -1, 0));
        due.refuses(x, "setWeather(0, 10, 0)", ARGUMENT, () -> x.setWeather(0, 10, 0));
        due.refuses(x, "setWeather(0, 0, -1)", ARGUMENT, () -> x.setWeather(0, 0, -1));
        due.refuses(x, "setWeather(0, 0, 10)", ARGUMENT, () -> x.setWeather(0, 0, 10));
        due.refuses(x, "setWeather(0, MOST, LEAST)", ARGUMENT, () -> x.setWeather(0, MOST, LEAST));
        due.answers("setWeather(0, 7, 2)", 40, () -> x.setWeather(0, 7, 2));
        due.answers("setWeather(0, 0, 9)", 72, () -> x.setWeather(0, 0, 9));
        due.answers("setWeather(0, 9, 0)", 9, () -> x.setWeather(0, 9, 0));
        due.answers("setWeather(0, 9, 9)", 90, () -> x.setWeather(0, 9, 9));
        due.answers("setWeather(0, 1, 3)", 99, () -> x.setWeather(0, 1, 3));
        due.answers("setWeather(11, 5, 6)", 40, () -> x.setWeather(11, 5, 6));
        due.answers("the rain of this month", 1, () -> x.count(7));
        due.answers("the storm of this month", 3, () -> x.count(8));
    }

    private void lay() {
        ThatchRoof x = Villages.calm();
        due.refuses(x, "lay on no roof", INDEX, () -> x.lay(0, 0, 0, 0, 1, 0));
        x.build(3, 2, 30);
        int[][] nowhere = {{-1, 0, 0, 0}, {1, 0, 0, 0}, {6, 0, 0, 0}, {LEAST, 0, 0, 0}, {MOST, 0, 0, 0}, {0, -1, 0, 0},
            {0, 2, 0, 0}, {0, LEAST, 0, 0}, {0, MOST, 0, 0}, {0, 0, -1, 0}, {0, 0, 3, 0}, {0, 0, MOST, 0},
            {0, 0, 0, -1}, {0, 0, 0, 3}, {0, 0, 0, LEAST}};
        for (int[] w : nowhere) {
            due.refuses(x, "lay nowhere", INDEX, () -> x.lay(w[0], w[1], w[2], w[3], 1, 0));
            due.refuses(x, "nowhere is named first", INDEX, () -> x.lay(w[0], w[1], w[2], w[3], 0, 10));
        }
        int[][] wrong = {{0, 0}, {41, 0}, {LEAST, 0}, {MOST, 0}, {1, -1}, {1, 10}, {1, LEAST}, {1, MOST}};
        for (int[] w : wrong) {
            due.refuses(x, "lay a wrong yealm", ARGUMENT, () -> x.lay(0, 0, 0, 0, w[0], w[1]));
            due.refuses(x, "a wrong yealm is named ahead of none below", ARGUMENT,
                    () -> x.lay(0, 1, 0, 0, w[0], w[1]));
        }
        due.refuses(x, "none below", STATE, () -> x.lay(0, 1, 0, 0, 1, 0));
        due.answers("lay a 3", 1, () -> x.lay(0, 0, 0, 0, 3, 0));
        due.told(x, 0, 0, 0, 1, 0, 3, 0, 0, 1);
        due.refuses(x, "one is there", STATE, () -> x.lay(0, 0, 0, 0, 3, 0));
        due.refuses(x, "none below at this place", STATE, () -> x.lay(0, 1, 1, 0, 1, 0));
        due.answers("lay a 4", 2, () -> x.lay(0, 1, 0, 1, 4, 9));
        due.told(x, 0, 1, 0, 1, 1, 4, 9, 0, 0);
        due.told(x, 0, 0, 0, 1, 0, 3, 0, 0, 0);
        due.answers("lay a 40", 11, () -> x.lay(0, 0, 2, 2, 40, 5));
        due.answers("lay a 7", 2, () -> x.lay(0, 1, 2, 2, 7, 5));
        due.answers("reed left", 499, () -> x.count(2));
        due.answers("straw left", 498, () -> x.count(3));
        due.answers("heather left", 487, () -> x.count(4));
        fewBundles();
    }

    private void fewBundles() {
        ThatchRoof x = new ThatchRoof();
        x.build(2, 2, 30);
        x.bring(0, 10);
        x.bring(1, 500);
        due.refuses(x, "10 bundles are too few for a 40", STATE, () -> x.lay(0, 0, 0, 0, 40, 0));
        due.answers("10 bundles are enough for a 39", 10, () -> x.lay(0, 0, 0, 0, 39, 0));
        due.refuses(x, "no reed left", STATE, () -> x.lay(0, 0, 1, 0, 1, 0));
        due.refuses(x, "no heather", STATE, () -> x.lay(0, 0, 1, 2, 1, 0));
    }

    private void layCourse() {
        ThatchRoof x = Villages.calm();
        due.refuses(x, "layCourse on no roof", INDEX, () -> x.layCourse(0, 0, 0, 1, 0));
        x.build(4, 3, 30);
        int[][] nowhere = {{-1, 0, 0}, {1, 0, 0}, {MOST, 0, 0}, {0, -1, 0}, {0, 3, 0}, {0, LEAST, 0}, {0, 0, -1},
            {0, 0, 3}};
        for (int[] w : nowhere) {
            due.refuses(x, "layCourse nowhere", INDEX, () -> x.layCourse(w[0], w[1], w[2], 1, 0));
            due.refuses(x, "nowhere is named first", INDEX, () -> x.layCourse(w[0], w[1], w[2], 41, -1));
        }
        int[][] wrong = {{0, 0}, {41, 0}, {LEAST, 0}, {MOST, 0}, {1, -1}, {1, 10}, {1, MOST}};
        for (int[] w : wrong) {
            due.refuses(x, "layCourse of wrong yealms", ARGUMENT, () -> x.layCourse(0, 0, 0, w[0], w[1]));
        }
        due.answers("none below anywhere", 0, () -> x.layCourse(0, 1, 0, 1, 0));
        x.lay(0, 0, 1, 2, 20, 4);
        due.answers("all but the one that is there", 3, () -> x.layCourse(0, 0, 0, 8, 3));
        due.told(x, 0, 0, 0, 1, 0, 8, 3, 0, 1);
        due.told(x, 0, 0, 1, 1, 2, 20, 4, 0, 1);
        due.told(x, 0, 0, 3, 1, 0, 8, 3, 0, 1);
        due.answers("3 bundles for each", 491, () -> x.count(2));
        due.answers("all are there", 0, () -> x.layCourse(0, 0, 1, 8, 3));
        x.lay(0, 1, 2, 1, 1, 0);
        due.answers("only where one is below", 1, () -> x.layCourse(0, 2, 1, 40, 9));
        due.told(x, 0, 2, 2, 1, 1, 40, 9, 0, 0);
        courseOfFewBundles();
    }

    private void courseOfFewBundles() {
        ThatchRoof x = new ThatchRoof();
        x.build(5, 2, 30);
        due.answers("no bundles", 0, () -> x.layCourse(0, 0, 0, 1, 0));
        x.bring(0, 8);
        x.bring(1, 500);
        due.answers("8 bundles for two yealms of 3", 2, () -> x.layCourse(0, 0, 0, 11, 0));
        due.answers("2 are left", 2, () -> x.count(2));
        due.told(x, 0, 0, 1, 1);
        due.told(x, 0, 0, 2, 0, -1, 0, 0, 0, 0);
        due.answers("place by place", 2, () -> x.layCourse(0, 0, 0, 1, 0));
        due.told(x, 0, 0, 3, 1, 0, 1);
        due.told(x, 0, 0, 4, 0);
    }

    private void mend() {
        ThatchRoof x = Villages.calm();
        due.refuses(x, "mend no roof", INDEX, () -> x.mend(0, 0, 0));
        x.build(2, 2, 30);
        int[][] nowhere = {{-1, 0, 0}, {1, 0, 0}, {LEAST, 0, 0}, {0, -1, 0}, {0, 2, 0}, {0, MOST, 0}, {0, 0, -1},
            {0, 0, 2}, {0, 0, LEAST}};
        for (int[] w : nowhere) {
            due.refuses(x, "mend nowhere", INDEX, () -> x.mend(w[0], w[1], w[2]));
        }
        due.refuses(x, "mend no yealm", STATE, () -> x.mend(0, 0, 0));
        x.lay(0, 0, 0, 1, 13, 5);
        Villages.weather(x, 9, 0);
        x.pass(1);
        due.told(x, 0, 0, 0, 1, 1, 8, 5, 1, 1);
        due.answers("mend", 18, () -> x.mend(0, 0, 0));
        due.told(x, 0, 0, 0, 1, 1, 18, 7, 0, 1);
        due.answers("3 straw for it", 493, () -> x.count(3));
        due.answers("no reed for it", 500, () -> x.count(2));
        x.mend(0, 0, 0);
        due.answers("mend a third time", 38, () -> x.mend(0, 0, 0));
        due.told(x, 0, 0, 0, 1, 1, 38, 9, 0, 1);
        due.answers("mend up to 40", 40, () -> x.mend(0, 0, 0));
        due.answers("mend a 40", 40, () -> x.mend(0, 0, 0));
        due.answers("which takes bundles too", 481, () -> x.count(3));

        ThatchRoof y = new ThatchRoof();
        y.build(2, 2, 30);
        y.bring(0, 500);
        y.bring(2, 6);
        y.lay(0, 0, 0, 2, 1, 8);
        y.lay(0, 0, 1, 2, 1, 8);
        due.answers("mend with 4", 11, () -> y.mend(0, 0, 0));
        due.told(y, 0, 0, 0, 1, 2, 11, 9);
        due.refuses(y, "1 is too few", STATE, () -> y.mend(0, 0, 0));
        y.bring(2, 1);
        due.refuses(y, "2 are too few", STATE, () -> y.mend(0, 0, 0));
        y.bring(2, 1);
        due.answers("3 are enough", 21, () -> y.mend(0, 0, 0));
        due.answers("none is left", 0, () -> y.count(4));
    }

    private void bind() {
        ThatchRoof x = new ThatchRoof();
        due.refuses(x, "bind no roof", INDEX, () -> x.bind(0));
        x.build(5, 2, 30);
        x.bring(0, 500);
        x.bring(1, 500);
        for (int roof : new int[] {-1, 1, 6, LEAST, MOST}) {
            due.refuses(x, "bind(" + roof + ")", INDEX, () -> x.bind(roof));
        }
        x.bring(2, 4);
        due.refuses(x, "4 of 5 bundles", STATE, () -> x.bind(0));
        x.bring(2, 8);
        x.setWeather(0, 4, 6);
        x.pass(2);
        due.answers("bind", 92, () -> x.bind(0));
        due.answers("anew", 100, () -> x.roof(0, 3));
        due.answers("bind what is full", 100, () -> x.bind(0));
        due.answers("5 of heather each time", 2, () -> x.count(4));
        due.answers("no reed", 500, () -> x.count(2));
        x.bring(2, 3);
        due.answers("bind with the last 5", 100, () -> x.bind(0));
        due.answers("none is left", 0, () -> x.count(4));
    }

    private void yealm() {
        ThatchRoof x = Villages.calm();
        due.refuses(x, "yealm of no roof", INDEX, () -> x.yealm(0, 0, 0, 0));
        x.build(2, 3, 30);
        x.lay(0, 0, 0, 2, 21, 6);
        x.lay(0, 1, 0, 1, 9, 1);
        x.lay(0, 2, 0, 0, 40, 9);
        x.lay(0, 0, 1, 0, 1, 0);
        due.told(x, 0, 0, 0, 1, 2, 21, 6, 0, 0);
        due.told(x, 0, 1, 0, 1, 1, 9, 1, 0, 0);
        due.told(x, 0, 2, 0, 1, 0, 40, 9, 0, 0);
        due.told(x, 0, 0, 1, 1, 0, 1, 0, 0, 1);
        due.told(x, 0, 1, 1, 0, -1, 0, 0, 0, 0);
        due.told(x, 0, 2, 1, 0, -1, 0, 0, 0, 0);
        int[][] nowhere = {{-1, 0, 0, 0}, {1, 0, 0, 0}, {0, -1, 0, 0}, {0, 3, 0, 0}, {0, 0, -1, 0}, {0, 0, 2, 0},
            {0, 0, 0, -1}, {0, 0, 0, 6}, {MOST, 0, 0, 0}, {0, MOST, 0, 0}, {0, 0, MOST, 0}, {0, 0, 0, MOST},
            {LEAST, 0, 0, 0}, {0, LEAST, 0, 0}, {0, 0, LEAST, 0}, {0, 0, 0, LEAST}};
        for (int[] w : nowhere) {
            due.refuses(x, "yealm nowhere", INDEX, () -> x.yealm(w[0], w[1], w[2], w[3]));
        }
    }

    private void roof() {
        ThatchRoof x = Villages.calm();
        x.build(3, 2, 33);
        x.build(2, 4, 60);
        x.layCourse(0, 0, 0, 20, 0);
        x.lay(0, 1, 1, 1, 12, 9);
        int[] want = {3, 2, 33, 100, 4, 72, 2, 0, 0};
        for (int what = 0; what < want.length; what++) {
            int asked = what;
            due.answers("roof(0, " + what + ")", want[what], () -> x.roof(0, asked));
        }
        due.answers("the other one", 0, () -> x.roof(1, 4));
        int[][] wrong = {{-1, 0}, {2, 0}, {LEAST, 0}, {MOST, 0}, {0, -1}, {0, 9}, {0, LEAST}, {0, MOST}};
        for (int[] w : wrong) {
            due.refuses(x, "roof of nothing", INDEX, () -> x.roof(w[0], w[1]));
        }
    }

    private void leaks() {
        ThatchRoof x = Villages.calm();
        x.build(2, 2, 30);
        due.answers("without thatch", 2, () -> x.roof(0, 6));
        x.lay(0, 0, 0, 0, 40, 0);
        due.answers("none in the highest course", 2, () -> x.roof(0, 6));
        x.lay(0, 1, 0, 0, 1, 0);
        due.answers("41 of 16", 1, () -> x.roof(0, 6));
        x.lay(0, 0, 1, 0, 8, 0);
        x.lay(0, 1, 1, 0, 7, 0);
        due.answers("15 of 16", 1, () -> x.roof(0, 6));
        x.build(2, 3, 30);
        x.layCourse(1, 0, 1, 8, 0);
        x.layCourse(1, 1, 1, 8, 0);
        x.layCourse(1, 2, 1, 8, 0);
        due.answers("24 of 24", 0, () -> x.roof(1, 6));
        due.answers("all places that leak", 1, () -> x.count(6));
    }

    private void count() {
        ThatchRoof x = new ThatchRoof();
        x.bring(0, 100);
        x.bring(1, 200);
        x.bring(2, 300);
        x.build(2, 2, 60);
        x.build(3, 2, 60);
        x.layCourse(0, 0, 0, 20, 9);
        x.layCourse(1, 0, 2, 20, 9);
        x.layCourse(1, 1, 2, 20, 9);
        x.setWeather(2, 6, 1);
        x.pass(2);
        int[] want = {2, 2, 88, 200, 264, 8, 2, 6, 1};
        for (int what = 0; what < want.length; what++) {
            int asked = what;
            due.answers("count(" + what + ")", want[what], () -> x.count(asked));
        }
        for (int what : new int[] {-1, 9, LEAST, MOST}) {
            due.refuses(x, "count(" + what + ")", INDEX, () -> x.count(what));
        }
    }

    private void passRefuses() {
        ThatchRoof x = new ThatchRoof();
        for (int months : new int[] {0, -1, 121, LEAST, MOST}) {
            due.refuses(x, "pass(" + months + ")", ARGUMENT, () -> x.pass(months));
        }
        due.answers("pass(1)", 0, () -> x.pass(1));
        due.answers("the month", 1, () -> x.count(0));
        due.answers("pass(120)", 0, () -> x.pass(120));
        due.answers("the month", 121, () -> x.count(0));
    }

    /** Rain of 9 takes 9 * 40 / 100 = 3 of what is covered; a yealm with nothing left has worn away. */
    private void rain() {
        ThatchRoof x = Villages.calm();
        x.build(3, 2, 30);
        x.layCourse(0, 0, 0, 40, 9);
        x.lay(0, 1, 0, 0, 4, 9);
        x.lay(0, 1, 1, 2, 3, 9);
        x.lay(0, 1, 2, 2, 2, 9);
        Villages.weather(x, 9, 0);
        due.answers("two wear away", 2, () -> x.pass(1));
        due.thick(x, 0, 0, 37);
        due.thick(x, 1, 0, 1);
        due.told(x, 0, 1, 1, 0, -1, 0, 0, 0, 0);
        due.answers("worn", 2, () -> x.roof(0, 8));
        due.answers("torn", 0, () -> x.roof(0, 7));

        ThatchRoof steep = Villages.calm();
        steep.build(2, 2, 60);
        steep.layCourse(0, 0, 0, 40, 9);
        steep.layCourse(0, 1, 0, 40, 9);
        Villages.weather(steep, 9, 0);
        steep.pass(5);
        due.answers("9 * 10 / 100 is 0", 160, () -> steep.roof(0, 5));
        steep.build(2, 2, 59);
        steep.layCourse(1, 0, 0, 40, 9);
        steep.layCourse(1, 1, 0, 40, 9);
        steep.build(2, 2, 58);
        steep.layCourse(2, 0, 0, 40, 9);
        steep.layCourse(2, 1, 0, 40, 9);
        steep.pass(1);
        due.answers("9 * 11 / 100 is 0", 160, () -> steep.roof(1, 5));
        due.answers("9 * 12 / 100 is 1", 156, () -> steep.roof(2, 5));
    }

    private void rainOnBareAndStraw() {
        ThatchRoof x = Villages.calm();
        x.build(4, 2, 37);
        x.lay(0, 0, 0, 0, 40, 9);
        x.lay(0, 0, 1, 1, 40, 9);
        x.lay(0, 0, 2, 1, 40, 9);
        x.lay(0, 1, 2, 1, 40, 9);
        x.lay(0, 0, 3, 2, 40, 9);
        Villages.weather(x, 2, 0);
        x.pass(1);
        due.thick(x, 0, 0, 39);
        due.thick(x, 0, 1, 38);
        due.thick(x, 0, 2, 39);
        due.thick(x, 1, 2, 39);
        due.thick(x, 0, 3, 39);
        Villages.weather(x, 0, 0);
        x.pass(1);
        due.thick(x, 0, 0, 39);
        due.thick(x, 0, 1, 37);
        due.thick(x, 1, 2, 38);
    }

    /** Rain of 9 on a slope of 30: 3 in three months, then with moss of 3 and more 4. */
    private void mossThinsOut() {
        ThatchRoof x = Villages.calm();
        x.build(2, 2, 30);
        x.layCourse(0, 0, 0, 40, 9);
        x.layCourse(0, 1, 0, 40, 9);
        Villages.weather(x, 9, 0);
        int[] want = {37, 34, 31, 27, 23, 19, 15};
        for (int w : want) {
            x.pass(1);
            due.thick(x, 1, 0, w);
        }
        x.mend(0, 1, 0);
        x.pass(1);
        due.thick(x, 1, 0, 22);
        due.thick(x, 1, 1, 11);
        x.pass(3);
        due.told(x, 0, 1, 1, 0);
        x.lay(0, 0, 1, 0, 40, 9);
        x.lay(0, 1, 1, 0, 30, 8);
        due.told(x, 0, 1, 1, 1, 0, 30, 8, 0, 0);
    }

    private void mossGrows() {
        ThatchRoof x = Villages.calm();
        x.build(2, 2, 44);
        x.build(2, 2, 45);
        for (int roof = 0; roof < 2; roof++) {
            x.layCourse(roof, 0, 0, 40, 9);
            x.layCourse(roof, 1, 0, 40, 9);
        }
        Villages.weather(x, 4, 0);
        x.pass(2);
        due.answers("none by a rain of 4", 0, () -> x.yealm(0, 0, 0, 4));
        Villages.weather(x, 5, 0);
        x.pass(1);
        due.answers("one by a rain of 5", 1, () -> x.yealm(0, 0, 0, 4));
        due.answers("in all courses", 1, () -> x.yealm(0, 1, 1, 4));
        due.answers("none on a slope of 45", 0, () -> x.yealm(1, 0, 0, 4));
        x.pass(8);
        due.answers("nine", 9, () -> x.yealm(0, 0, 0, 4));
        x.pass(3);
        due.answers("nine at most", 9, () -> x.yealm(0, 1, 0, 4));
        x.mend(0, 1, 0);
        due.answers("none when mended", 0, () -> x.yealm(0, 1, 0, 4));
        due.answers("the month", 14, () -> x.count(0));
    }

    /** In the middle, below the highest course, and covered: torn by storm * 2 over 2 * spars. */
    private void storm() {
        ThatchRoof x = Villages.calm();
        x.build(5, 3, 30);
        x.layCourse(0, 0, 0, 3, 4);
        x.layCourse(0, 1, 0, 40, 9);
        x.layCourse(0, 2, 0, 40, 9);
        x.setWeather(0, 0, 4);
        x.setWeather(1, 0, 5);
        due.answers("the two at the ends", 2, () -> x.pass(1));
        due.told(x, 0, 0, 0, 0);
        due.told(x, 0, 1, 0, 1);
        due.told(x, 0, 2, 0, 1);
        due.answers("10 against 8", 3, () -> x.pass(1));
        due.told(x, 0, 0, 2, 0);
        due.answers("torn", 5, () -> x.roof(0, 7));
        due.answers("worn", 0, () -> x.roof(0, 8));
        due.answers("one may be laid anew", 1, () -> x.lay(0, 0, 2, 1, 3, 0));
        due.told(x, 0, 0, 2, 1, 1, 3, 0, 0, 0);
    }

    /** No storm at all: what is bare pulls by 3, what is at an end by 2. */
    private void stormAndEnds() {
        ThatchRoof x = Villages.calm();
        x.build(5, 2, 30);
        x.lay(0, 0, 0, 0, 3, 2);
        x.lay(0, 0, 1, 0, 3, 1);
        x.lay(0, 0, 2, 0, 3, 2);
        x.lay(0, 0, 3, 0, 4, 1);
        x.lay(0, 0, 4, 0, 4, 2);
        due.answers("the bare ones", 2, () -> x.pass(1));
        due.told(x, 0, 0, 0, 0);
        due.told(x, 0, 0, 1, 0);
        due.told(x, 0, 0, 2, 1);
        due.told(x, 0, 0, 3, 1);
        due.told(x, 0, 0, 4, 1);

        ThatchRoof y = Villages.calm();
        y.build(3, 2, 30);
        y.layCourse(0, 0, 0, 3, 0);
        y.layCourse(0, 1, 0, 3, 0);
        due.answers("the ends, held by nothing", 2, () -> y.pass(1));
        due.told(y, 0, 0, 0, 0);
        due.told(y, 0, 0, 1, 1);
        due.told(y, 0, 0, 2, 0);
        due.told(y, 0, 1, 0, 1);
    }

    /** In the highest course the ridge holds by its 20th part. */
    private void stormAndRidge() {
        ThatchRoof x = Villages.calm();
        x.build(3, 2, 60);
        x.layCourse(0, 0, 0, 40, 9);
        x.layCourse(0, 1, 0, 3, 0);
        due.answers("5 is held by 5, 4 and 2", 2, () -> x.tears(0, 2));
        x.setWeather(0, 0, 2);
        due.answers("6 and 4 against 5", 2, () -> x.pass(1));
        due.told(x, 0, 1, 1, 1);
        due.answers("97 / 20 is 4", 97, () -> x.roof(0, 3));
        due.answers("4 is held by 4", 0, () -> x.tears(0, 2));
        x.setWeather(0, 0, 0);
        x.pass(17);
        due.answers("80 / 20 is 4", 0, () -> x.tears(0, 2));
        x.pass(1);
        due.answers("79 / 20 is 3", 1, () -> x.tears(0, 2));
    }

    private void stormAndThickness() {
        ThatchRoof x = Villages.calm();
        x.build(4, 3, 60);
        x.layCourse(0, 0, 0, 40, 9);
        x.lay(0, 1, 1, 0, 27, 0);
        x.lay(0, 1, 2, 0, 28, 0);
        due.answers("7 against 6", 1, () -> x.tears(0, 2));
        x.setWeather(0, 0, 2);
        due.answers("7 against 6", 1, () -> x.pass(1));
        due.told(x, 0, 1, 1, 0);
        due.told(x, 0, 1, 2, 1);
    }

    /** A step looks at what was ahead of it: the storm sees what the rain laid bare, and not what it tears. */
    private void stepsOfAMonth() {
        ThatchRoof x = Villages.calm();
        x.build(4, 2, 30);
        x.layCourse(0, 0, 0, 10, 0);
        x.lay(0, 1, 1, 0, 3, 9);
        x.lay(0, 1, 2, 0, 4, 9);
        x.setWeather(0, 9, 0);
        due.answers("one wears away, three are torn", 4, () -> x.pass(1));
        due.answers("worn", 1, () -> x.roof(0, 8));
        due.answers("torn", 3, () -> x.roof(0, 7));
        due.told(x, 0, 0, 1, 0);
        due.told(x, 0, 0, 2, 1, 0, 7, 0, 1, 0);

        ThatchRoof covered = Villages.calm();
        covered.build(2, 2, 30);
        covered.lay(0, 0, 0, 0, 40, 9);
        covered.lay(0, 1, 0, 0, 3, 9);
        covered.setWeather(0, 9, 0);
        covered.pass(1);
        due.thick(covered, 0, 0, 37);
        covered.setWeather(1, 9, 0);
        covered.pass(1);
        due.thick(covered, 0, 0, 33);

        ThatchRoof torn = Villages.calm();
        torn.build(2, 2, 30);
        torn.lay(0, 0, 0, 0, 8, 9);
        torn.lay(0, 1, 0, 0, 20, 0);
        torn.setWeather(0, 0, 9);
        due.answers("what was covered stays", 1, () -> torn.pass(1));
        due.told(torn, 0, 0, 0, 1, 0, 8, 9, 0, 1);
        torn.setWeather(1, 0, 9);
        due.answers("until the next month", 1, () -> torn.pass(1));
        due.answers("torn", 2, () -> torn.roof(0, 7));
    }

    private void ridgeWears() {
        ThatchRoof x = Villages.calm();
        x.build(2, 2, 30);
        x.pass(1);
        due.answers("1 in each month", 99, () -> x.roof(0, 3));
        Villages.weather(x, 0, 9);
        x.pass(9);
        due.answers("and the storm", 9, () -> x.roof(0, 3));
        x.pass(1);
        due.answers("at least 0", 0, () -> x.roof(0, 3));
        x.build(3, 2, 30);
        x.pass(1);
        due.answers("roof by roof", 90, () -> x.roof(1, 3));
        due.answers("at least 0", 0, () -> x.roof(0, 3));
    }

    private void monthsOfTheYear() {
        ThatchRoof x = Villages.calm();
        x.build(2, 2, 30);
        x.setWeather(0, 0, 3);
        x.setWeather(11, 1, 7);
        x.pass(11);
        due.answers("rain", 1, () -> x.count(7));
        due.answers("storm", 7, () -> x.count(8));
        due.answers("the ridge", 86, () -> x.roof(0, 3));
        x.pass(1);
        due.answers("the month", 12, () -> x.count(0));
        due.answers("the storm of the year's first", 3, () -> x.count(8));
        due.answers("the ridge", 78, () -> x.roof(0, 3));
        x.pass(1);
        due.answers("the ridge", 74, () -> x.roof(0, 3));
    }

    private void tears() {
        ThatchRoof x = Villages.calm();
        due.refuses(x, "tears of no roof", INDEX, () -> x.tears(0, 0));
        x.build(4, 2, 40);
        x.layCourse(0, 0, 0, 20, 4);
        x.layCourse(0, 1, 2, 12, 1);
        for (int roof : new int[] {-1, 1, LEAST, MOST}) {
            due.refuses(x, "tears(" + roof + ", 10)", INDEX, () -> x.tears(roof, 10));
        }
        for (int storm : new int[] {-1, 10, LEAST, MOST}) {
            due.refuses(x, "tears(0, " + storm + ")", ARGUMENT, () -> x.tears(0, storm));
        }
        int[] want = {0, 0, 0, 0, 0, 2, 6, 8, 8, 8};
        long before = x.digest();
        for (int storm = 0; storm < want.length; storm++) {
            int s = storm;
            due.answers("tears(0, " + storm + ")", want[storm], () -> x.tears(0, s));
        }
        due.same("tears changes nothing", x.digest(), before);
    }

    private void holds() {
        ThatchRoof x = Villages.calm();
        due.refuses(x, "holds of no roof", INDEX, () -> x.holds(0));
        x.build(2, 2, 30);
        for (int roof : new int[] {-1, 1, LEAST, MOST}) {
            due.refuses(x, "holds(" + roof + ")", INDEX, () -> x.holds(roof));
        }
        due.answers("leaks everywhere by now", -1, () -> x.holds(0));
        x.layCourse(0, 0, 0, 40, 9);
        x.layCourse(0, 1, 0, 40, 9);
        due.answers("no rain", -1, () -> x.holds(0));
        Villages.weather(x, 9, 0);
        long before = x.digest();
        // 80 less 6, 6, 6, then 8 a month: 62 - 8 * 5 = 22, and 14 in the ninth month
        due.answers("below 16", 9, () -> x.holds(0));
        due.same("holds changes nothing", x.digest(), before);
        x.pass(8);
        due.answers("in the next month", 1, () -> x.holds(0));
        x.pass(1);
        due.answers("all leak", -1, () -> x.holds(0));

        ThatchRoof slow = Villages.calm();
        slow.build(2, 6, 60);
        for (int course = 0; course < 6; course++) {
            slow.layCourse(0, course, course == 0 ? 1 : 0, course == 5 ? 8 : 40, 9);
        }
        due.answers("never", -1, () -> slow.holds(0));
        lastMonthOfHolds();
    }

    /** Rain in one month of the year, of 9 on a slope of 45, takes 9 * 25 / 100 of each of two: 4 in a year. */
    private void lastMonthOfHolds() {
        ThatchRoof x = Villages.calm();
        x.setWeather(11, 9, 0);
        x.build(2, 2, 45);
        x.layCourse(0, 0, 2, 16, 9);
        x.layCourse(0, 1, 2, 19, 9);
        due.answers("35 less 5 * 4", 60, () -> x.holds(0));
        x.build(2, 2, 45);
        x.layCourse(1, 0, 2, 25, 9);
        x.layCourse(1, 1, 2, 30, 9);
        due.answers("55 less 10 * 4", 120, () -> x.holds(1));
        x.mend(1, 0, 1);
        due.answers("one place is enough", 120, () -> x.holds(1));
        x.mend(1, 1, 0);
        due.answers("65 less 10 * 4", -1, () -> x.holds(1));
        x.pass(24);
        due.answers("57 less 10 * 4", -1, () -> x.holds(1));
        x.pass(11);
        due.answers("57 less 11 * 4 in 121 months", -1, () -> x.holds(1));
        x.pass(1);
        due.answers("53 less 10 * 4", 120, () -> x.holds(1));
        x.pass(5);
        due.answers("five months on", 115, () -> x.holds(1));
    }

    /** What is foreseen goes on from all that a yealm is by now. */
    private void holdsWithMossAndStraw() {
        ThatchRoof x = Villages.calm();
        x.build(2, 2, 30);
        x.layCourse(0, 0, 0, 40, 9);
        x.layCourse(0, 1, 0, 40, 9);
        Villages.weather(x, 9, 0);
        x.pass(3);
        due.answers("62 less 6 * 8", 6, () -> x.holds(0));
        x.build(2, 2, 60);
        x.layCourse(1, 0, 1, 10, 9);
        x.layCourse(1, 1, 1, 10, 9);
        Villages.weather(x, 0, 0);
        due.answers("20 less 3 * 2", 3, () -> x.holds(1));
        due.answers("20 less 2 * 2", 0, () -> x.foresee(1, 2, 1));
        due.answers("20 less 3 * 2", 2, () -> x.foresee(1, 3, 1));
        due.answers("nine months", 4, () -> x.foresee(1, 9, 0));
        due.answers("ten months", 0, () -> x.foresee(1, 10, 0));
    }

    private void foresee() {
        ThatchRoof x = Villages.calm();
        due.refuses(x, "foresee of no roof", INDEX, () -> x.foresee(0, 1, 0));
        x.build(2, 2, 30);
        int[][] nowhere = {{-1, 0}, {1, 0}, {LEAST, 0}, {MOST, 0}, {0, -1}, {0, 3}, {0, LEAST}, {0, MOST}};
        for (int[] w : nowhere) {
            due.refuses(x, "foresee nothing", INDEX, () -> x.foresee(w[0], 1, w[1]));
            due.refuses(x, "nothing is named first", INDEX, () -> x.foresee(w[0], 0, w[1]));
        }
        for (int months : new int[] {0, -1, 61, LEAST, MOST}) {
            due.refuses(x, "foresee(0, " + months + ", 0)", ARGUMENT, () -> x.foresee(0, months, 0));
        }
        x.layCourse(0, 0, 0, 8, 9);
        x.lay(0, 1, 0, 0, 40, 9);
        x.lay(0, 1, 1, 0, 8, 9);
        Villages.weather(x, 9, 1);
        x.setWeather(1, 0, 9);
        long before = x.digest();
        due.answers("yealms by now", 4, () -> x.foresee(0, 1, 0));
        due.answers("leaks", 1, () -> x.foresee(0, 1, 1));
        due.answers("the ridge", 98, () -> x.foresee(0, 1, 2));
        due.answers("the ridge behind the storm", 88, () -> x.foresee(0, 2, 2));
        due.answers("the ridge behind a year", 68, () -> x.foresee(0, 12, 2));
        due.answers("the ridge behind three", 4, () -> x.foresee(0, 36, 2));
        due.answers("the ridge behind five", 0, () -> x.foresee(0, 60, 2));
        due.answers("all are gone behind five", 0, () -> x.foresee(0, 60, 0));
        due.answers("all leaks behind five", 2, () -> x.foresee(0, 60, 1));
        due.same("foresee changes nothing", x.digest(), before);
        x.pass(1);
        due.answers("it starts with this month", 88, () -> x.foresee(0, 1, 2));
    }

    private void advise() {
        ThatchRoof x = Villages.calm();
        due.refuses(x, "advise on no roof", INDEX, () -> x.advise(0, 1));
        x.build(4, 2, 30);
        for (int roof : new int[] {-1, 1, LEAST, MOST}) {
            due.refuses(x, "advise(" + roof + ", 0)", INDEX, () -> x.advise(roof, 0));
        }
        for (int months : new int[] {0, -1, 25, LEAST, MOST}) {
            due.refuses(x, "advise(0, " + months + ")", ARGUMENT, () -> x.advise(0, months));
        }
        due.answers("no yealms", -1, () -> x.advise(0, 24));
        x.layCourse(0, 0, 0, 40, 9);
        x.layCourse(0, 1, 0, 40, 9);
        due.answers("all are left without", -1, () -> x.advise(0, 24));
        Villages.weather(x, 9, 0);
        due.answers("none is left with it", -1, () -> x.advise(0, 24));

        ThatchRoof one = new ThatchRoof();
        one.build(4, 2, 30);
        one.bring(0, 90);
        one.layCourse(0, 0, 0, 40, 9);
        one.lay(0, 1, 0, 0, 40, 9);
        one.lay(0, 1, 1, 0, 40, 9);
        one.lay(0, 1, 2, 0, 5, 9);
        Villages.weather(one, 4, 0);
        long before = one.digest();
        due.answers("the thin one, whatever is in the barn", 6, () -> one.advise(0, 5));
        due.answers("not yet", -1, () -> one.advise(0, 4));
        due.same("advise changes nothing", one.digest(), before);
        one.pass(1);
        due.answers("a month ago", 6, () -> one.advise(0, 4));
    }

    private void adviseOrder() {
        ThatchRoof x = Villages.calm();
        x.build(5, 2, 30);
        x.layCourse(0, 0, 0, 40, 9);
        x.lay(0, 1, 3, 0, 4, 9);
        x.lay(0, 1, 1, 2, 4, 9);
        x.lay(0, 1, 2, 2, 40, 9);
        Villages.weather(x, 4, 0);
        due.answers("of several the least", 6, () -> x.advise(0, 4));

        ThatchRoof first = Villages.calm();
        first.build(2, 2, 60);
        first.lay(0, 0, 0, 0, 1, 9);
        Villages.weather(first, 8, 0);
        due.answers("the very first", 0, () -> first.advise(0, 1));

        ThatchRoof ridged = Villages.calm();
        ridged.build(3, 2, 60);
        ridged.layCourse(0, 0, 0, 40, 9);
        ridged.lay(0, 1, 1, 0, 3, 0);
        Villages.weather(ridged, 0, 2);
        // the ridge is 79 in the eighth month, and holds by 3 against 4
        due.answers("the ridge holds it", -1, () -> ridged.advise(0, 7));
        due.answers("the ridge no longer holds it", 4, () -> ridged.advise(0, 8));

        ThatchRoof y = Villages.calm();
        y.build(5, 3, 30);
        y.layCourse(0, 0, 0, 40, 9);
        y.lay(0, 1, 1, 0, 3, 9);
        y.lay(0, 1, 3, 0, 12, 4);
        y.lay(0, 2, 3, 0, 3, 0);
        y.setWeather(0, 9, 0);
        // Place 1: its yealm of 3 wears away. Place 3: the highest one wears away, and lays bare the one
        // below it, of 9 then: 6 + 3 against 8 + 2.
        y.setWeather(1, 0, 3);
        due.answers("one at either", 6, () -> y.advise(0, 2));
        // Now 8 + 3 against 8 + 2: the highest one, mended, saves itself and the one below it.
        y.setWeather(1, 0, 4);
        due.answers("two at place 3", 13, () -> y.advise(0, 2));
        due.answers("nothing is taken", 439, () -> y.count(2));
    }

    private void needs() {
        ThatchRoof x = Villages.calm();
        due.refuses(x, "needs of no roof", INDEX, () -> x.needs(0, 1));
        x.build(10, 6, 30);
        for (int roof : new int[] {-1, 1, LEAST, MOST}) {
            due.refuses(x, "needs(" + roof + ", 0)", INDEX, () -> x.needs(roof, 0));
        }
        for (int thickness : new int[] {0, -1, 41, LEAST, MOST}) {
            due.refuses(x, "needs(0, " + thickness + ")", ARGUMENT, () -> x.needs(0, thickness));
        }
        due.answers("1 each for a 1", 60, () -> x.needs(0, 1));
        due.answers("1 each", 60, () -> x.needs(0, 3));
        due.answers("2 each", 120, () -> x.needs(0, 4));
        due.answers("11 each", 660, () -> x.needs(0, 40));
        x.layCourse(0, 0, 0, 1, 9);
        x.lay(0, 1, 4, 0, 1, 9);
        due.answers("10 each for 49", 490, () -> x.needs(0, 39));
        x.build(2, 2, 30);
        x.layCourse(1, 0, 0, 1, 9);
        x.layCourse(1, 1, 0, 1, 9);
        due.answers("nothing", 0, () -> x.needs(1, 40));
    }

    private void mean() {
        ThatchRoof x = Villages.calm();
        x.build(2, 2, 30);
        x.build(3, 2, 30);
        due.same("no yealms", x.mean(), 0.0);
        x.lay(0, 0, 0, 0, 7, 9);
        due.same("one", x.mean(), 7.0);
        x.lay(1, 0, 2, 1, 10, 9);
        due.same("two, on two roofs", x.mean(), 8.5);
        x.lay(1, 0, 1, 1, 3, 9);
        due.same("three", x.mean(), 20.0 / 3.0);
    }

    private void digest() {
        ThatchRoof x = new ThatchRoof();
        due.same("new", x.digest(), digestOf(x, new int[] {40, 40, 40, 40, 40, 40, 40, 40, 40, 40, 40, 40}));
        x.bring(0, 300);
        x.bring(1, 100);
        x.bring(2, 77);
        x.build(4, 3, 40);
        x.build(2, 2, 55);
        x.layCourse(0, 0, 0, 20, 7);
        x.layCourse(0, 1, 1, 13, 5);
        x.lay(0, 2, 3, 2, 9, 0);
        x.lay(1, 0, 0, 0, 1, 1);
        int[] table = new int[12];
        for (int m = 0; m < 12; m++) {
            x.setWeather(m, (m * 7 + 3) % 10, (m * 3 + 1) % 10);
            table[m] = 10 * ((m * 7 + 3) % 10) + (m * 3 + 1) % 10;
        }
        due.same("with roofs", x.digest(), digestOf(x, table));
        x.pass(3);
        due.same("behind three months", x.digest(), digestOf(x, table));
        due.same("asking changes nothing", x.digest(), x.digest());
    }

    private static long digestOf(ThatchRoof x, int[] table) {
        long d = 739;
        for (int what = 0; what < 9; what++) {
            d = d * 31 + x.count(what);
        }
        for (int weather : table) {
            d = d * 31 + weather;
        }
        for (int roof = 0; roof < x.count(1); roof++) {
            for (int what = 0; what < 9; what++) {
                d = d * 31 + x.roof(roof, what);
            }
            for (int course = 0; course < x.roof(roof, 1); course++) {
                for (int place = 0; place < x.roof(roof, 0); place++) {
                    for (int what = 0; what < 6; what++) {
                        d = d * 31 + x.yealm(roof, course, place, what);
                    }
                }
            }
        }
        return d;
    }
}
