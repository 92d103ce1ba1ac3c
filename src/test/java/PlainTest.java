import java.util.Random;

/** Long runs of calls, drawn by fixed seeds: ThatchRoof and PlainVillage answer alike. */
public final class PlainTest {
    private static final int RUNS = 400;
    private static final int CALLS = 512;

    private final Due due;
    private final Random draw;
    private final String run;
    private final ThatchRoof x = new ThatchRoof();
    private final PlainVillage plain = new PlainVillage();

    private PlainTest(Due due, int seed) {
        this.due = due;
        this.draw = new Random(seed);
        this.run = "run " + seed + " ";
    }

    public static void main(String[] args) {
        Due due = new Due();
        for (int seed = 0; seed < RUNS; seed++) {
            PlainTest test = new PlainTest(due, seed);
            test.prepare(seed);
            for (int i = 0; i < CALLS / 2; i++) {
                test.call();
            }
        }
        due.end("PlainTest");
    }

    /** Mostly from least to most, now and then outside of it. */
    private int some(int least, int most) {
        int way = draw.nextInt(60);
        if (way == 0) {
            return least - 1;
        }
        if (way == 1) {
            return most + 1;
        }
        if (way == 2) {
            return draw.nextInt();
        }
        return least + draw.nextInt(most - least + 1);
    }

    private void both(String call, Due.Call ours, Due.Call theirs) {
        due.same(run + call, Due.outcome(ours), Due.outcome(theirs));
        due.same(run + "digest behind " + call, x.digest(), plain.digest());
    }

    /** Some runs start with much thatch and mild storms, so that months take long to wear it down. */
    private void prepare(int seed) {
        for (int kind = 0; kind < 3; kind++) {
            bring(kind, 300 + draw.nextInt(200));
        }
        int roofs = 1 + draw.nextInt(3);
        for (int r = 0; r < roofs; r++) {
            int courses = 2 + draw.nextInt(5);
            build(2 + draw.nextInt(9), courses, 30 + draw.nextInt(31));
            for (int c = 0; c < courses; c++) {
                layCourse(r, c, draw.nextInt(3), 1 + draw.nextInt(40), draw.nextInt(10));
            }
        }
        for (int m = 0; m < 12; m++) {
            setWeather(m, draw.nextInt(10), draw.nextInt(1 + seed % 10));
        }
    }

    private void call() {
        int roof = some(0, Math.max(x.count(1) - 1, 0));
        int course = some(0, roof >= 0 && roof < x.count(1) ? x.roof(roof, 1) - 1 : 5);
        int place = some(0, roof >= 0 && roof < x.count(1) ? x.roof(roof, 0) - 1 : 9);
        switch (draw.nextInt(20)) {
            case 0 -> build(some(2, 10), some(2, 6), some(30, 60));
            case 1, 2 -> bring(some(0, 2), draw.nextBoolean() ? some(1, 60) : some(1, 500));
            case 3 -> setWeather(some(0, 11), some(0, 9), some(0, 9));
            case 4, 5, 6 -> lay(roof, course, place);
            case 7, 8 -> layCourse(roof, course, some(0, 2), some(1, 40), some(0, 9));
            case 9, 10 -> both("mend(" + roof + ", " + course + ", " + place + ")",
                    () -> x.mend(roof, course, place), () -> plain.mend(roof, course, place));
            case 11 -> both("bind(" + roof + ")", () -> x.bind(roof), () -> plain.bind(roof));
            case 12 -> look(roof, course, place);
            case 13, 14 -> pass(draw.nextInt(5) == 0 ? some(1, 120) : some(1, 6));
            case 15 -> tears(roof, some(0, 9));
            case 16 -> both("holds(" + roof + ")", () -> x.holds(roof), () -> plain.holds(roof));
            case 17 -> foresee(roof, some(1, 60), some(0, 2));
            case 18 -> advise(roof, some(1, 24));
            default -> needs(roof, some(1, 40));
        }
    }

    private void build(int width, int courses, int slope) {
        both("build(" + width + ", " + courses + ", " + slope + ")", () -> x.build(width, courses, slope),
                () -> plain.build(width, courses, slope));
    }

    private void bring(int kind, int many) {
        both("bring(" + kind + ", " + many + ")", () -> x.bring(kind, many), () -> plain.bring(kind, many));
    }

    private void setWeather(int m, int rain, int storm) {
        both("setWeather(" + m + ", " + rain + ", " + storm + ")", () -> x.setWeather(m, rain, storm),
                () -> plain.setWeather(m, rain, storm));
    }

    private void lay(int roof, int course, int place) {
        int kind = some(0, 2);
        int thickness = some(1, 40);
        int spars = some(0, 9);
        both("lay(" + roof + ", " + course + ", " + place + ", " + kind + ", " + thickness + ", " + spars + ")",
                () -> x.lay(roof, course, place, kind, thickness, spars),
                () -> plain.lay(roof, course, place, kind, thickness, spars));
    }

    private void layCourse(int roof, int course, int kind, int thickness, int spars) {
        both("layCourse(" + roof + ", " + course + ", " + kind + ", " + thickness + ", " + spars + ")",
                () -> x.layCourse(roof, course, kind, thickness, spars),
                () -> plain.layCourse(roof, course, kind, thickness, spars));
    }

    private void look(int roof, int course, int place) {
        int told = some(0, 5);
        int asked = some(0, 8);
        both("yealm(" + roof + ", " + course + ", " + place + ", " + told + ")",
                () -> x.yealm(roof, course, place, told), () -> plain.yealm(roof, course, place, told));
        both("roof(" + roof + ", " + asked + ")", () -> x.roof(roof, asked), () -> plain.roof(roof, asked));
        both("count(" + asked + ")", () -> x.count(asked), () -> plain.count(asked));
        due.same(run + "mean()", x.mean(), plain.mean());
    }

    private void pass(int months) {
        both("pass(" + months + ")", () -> x.pass(months), () -> plain.pass(months));
    }

    private void tears(int roof, int storm) {
        both("tears(" + roof + ", " + storm + ")", () -> x.tears(roof, storm), () -> plain.tears(roof, storm));
    }

    private void foresee(int roof, int months, int what) {
        both("foresee(" + roof + ", " + months + ", " + what + ")", () -> x.foresee(roof, months, what),
                () -> plain.foresee(roof, months, what));
    }

    private void advise(int roof, int months) {
        both("advise(" + roof + ", " + months + ")", () -> x.advise(roof, months),
                () -> plain.advise(roof, months));
    }

    private void needs(int roof, int thickness) {
        both("needs(" + roof + ", " + thickness + ")", () -> x.needs(roof, thickness),
                () -> plain.needs(roof, thickness));
    }
}
