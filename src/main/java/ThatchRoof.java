/** A village of thatched roofs, its barn and its weather. */
public final class ThatchRoof {
    private static final int MOST_ROOFS = 6;
    private static final int LEAST_WIDTH = 2;
    private static final int MOST_WIDTH = 10;
    private static final int LEAST_COURSES = 2;
    private static final int MOST_COURSES = 6;
    private static final int MOST_YEALMS = MOST_WIDTH * MOST_COURSES;
    private static final int LEAST_SLOPE = 30;
    private static final int MOST_SLOPE = 60;
    private static final int FULL_RIDGE = 100;
    private static final int NO_COURSE = -1;

    private static final int KINDS = 3;
    private static final int STRAW = 1;
    private static final int HEATHER = 2;
    private static final int MOST_THICKNESS = 40;
    private static final int MOST_SPARS = 9;
    private static final int MOST_MOSS = 9;
    private static final int MOST_BUNDLES = 500;
    private static final int BUNDLES_TO_MEND = 3;

    private static final int MONTHS_OF_YEAR = 12;
    private static final int FIRST_RAIN = 4;
    private static final int WORST_WEATHER = 9;
    private static final int MOST_MONTHS_TO_PASS = 120;
    private static final int MOST_MONTHS_TO_HOLD = 120;
    private static final int MOST_MONTHS_TO_FORESEE = 60;
    private static final int MOST_MONTHS_TO_ADVISE = 24;

    private static final int THINGS_TOLD_OF_YEALM = 6;
    private static final int THINGS_TOLD_OF_ROOF = 9;
    private static final int THINGS_COUNTED = 9;
    private static final int THINGS_FORESEEN = 3;
    private static final long FIRST_DIGEST = 739L;

    /** A roof with its thatch; the yealms are numbered course by course, from the eaves. */
    private static final class Roof {
        private int width;
        private int courses;
        private int slope;
        private int ridge;
        private int torn;
        private int worn;
        private final int[] kinds = new int[MOST_YEALMS];
        /** 0 where there is no yealm; what the other rows hold there then means nothing. */
        private final int[] thicknesses = new int[MOST_YEALMS];
        private final int[] spars = new int[MOST_YEALMS];
        private final int[] mosses = new int[MOST_YEALMS];

        Roof(int width, int courses, int slope) {
            this.width = width;
            this.courses = courses;
            this.slope = slope;
            this.ridge = FULL_RIDGE;
        }

        /** But for what it has lost so far, which nobody asks a trial for. */
        void becomeLike(Roof other) {
            width = other.width;
            courses = other.courses;
            slope = other.slope;
            ridge = other.ridge;
            System.arraycopy(other.kinds, 0, kinds, 0, MOST_YEALMS);
            System.arraycopy(other.thicknesses, 0, thicknesses, 0, MOST_YEALMS);
            System.arraycopy(other.spars, 0, spars, 0, MOST_YEALMS);
            System.arraycopy(other.mosses, 0, mosses, 0, MOST_YEALMS);
        }

        // ---- its shape

        int wide() {
            return width;
        }

        int high() {
            return courses;
        }

        int ridgeLeft() {
            return ridge;
        }

        boolean hasCourse(int course) {
            return course >= 0 && course < courses;
        }

        boolean hasPlace(int course, int place) {
            return hasCourse(course) && place >= 0 && place < width;
        }

        int numberOf(int course, int place) {
            return course * width + place;
        }

        private boolean isHighest(int course) {
            return course == courses - 1;
        }

        private boolean isEnd(int place) {
            return place == 0 || place == width - 1;
        }

        // ---- its yealms

        /** 0 without a yealm, and outside the roof. */
        int thicknessAt(int course, int place) {
            if (course < 0 || course >= courses || place < 0 || place >= width) {
                return 0;
            }
            return thicknesses[course * width + place];
        }

        boolean hasYealm(int course, int place) {
            return thicknessAt(course, place) > 0;
        }

        boolean canCarry(int course, int place) {
            return !hasYealm(course, place) && (course == 0 || hasYealm(course - 1, place));
        }

        private boolean isBare(int course, int place) {
            return !isHighest(course) && thicknessAt(course + 1, place) == 0;
        }

        void putYealm(int course, int place, int kind, int thickness, int sparsOfIt) {
            if (!hasPlace(course, place)) {
                return;
            }
            int at = numberOf(course, place);
            kinds[at] = kind;
            thicknesses[at] = thickness;
            spars[at] = sparsOfIt;
            mosses[at] = 0;
        }

        /** -1 without a yealm. */
        int kindAt(int course, int place) {
            return hasYealm(course, place) ? kinds[numberOf(course, place)] : -1;
        }

        void improve(int course, int place) {
            if (!hasYealm(course, place)) {
                return;
            }
            int at = numberOf(course, place);
            mosses[at] = 0;
            spars[at] = Math.min(spars[at] + 2, MOST_SPARS);
            thicknesses[at] = Math.min(thicknesses[at] + 10, MOST_THICKNESS);
        }

        int renewRidge() {
            int before = ridge;
            ridge = FULL_RIDGE;
            return before;
        }

        // ---- what is told of it

        int tellYealm(int course, int place, int what) {
            if (!hasYealm(course, place)) {
                return what == 1 ? -1 : 0;
            }
            int at = numberOf(course, place);
            switch (what) {
                case 0:
                    return 1;
                case 1:
                    return kinds[at];
                case 2:
                    return thicknesses[at];
                case 3:
                    return spars[at];
                case 4:
                    return mosses[at];
                default:
                    return isBare(course, place) ? 1 : 0;
            }
        }

        int tell(int what) {
            switch (what) {
                case 0:
                    return width;
                case 1:
                    return courses;
                case 2:
                    return slope;
                case 3:
                    return ridge;
                case 4:
                    return yealms();
                case 5:
                    return thicknessInAll();
                case 6:
                    return leaks();
                case 7:
                    return torn;
                default:
                    return worn;
            }
        }

        int yealms() {
            int found = 0;
            for (int course = 0; course < courses; course++) {
                for (int place = 0; place < width; place++) {
                    if (hasYealm(course, place)) {
                        found++;
                    }
                }
            }
            return found;
        }

        int thicknessInAll() {
            int sum = 0;
            for (int place = 0; place < width; place++) {
                sum += thicknessOver(place);
            }
            return sum;
        }

        private int thicknessOver(int place) {
            int sum = 0;
            for (int course = 0; course < courses; course++) {
                sum += thicknessAt(course, place);
            }
            return sum;
        }

        int leaks() {
            int found = 0;
            for (int place = 0; place < width; place++) {
                if (thicknessOver(place) < 8 * courses || !hasYealm(courses - 1, place)) {
                    found++;
                }
            }
            return found;
        }

        // ---- its months

        int liveMonth(int rain, int storm) {
            int lost = 0;
            for (int place = 0; place < width; place++) {
                lost += liveMonthAt(place, rain, storm);
            }
            wearRidge(storm);
            return lost;
        }

        /** All but the ridge: no step looks at another place, so that a place may live its month alone. */
        int liveMonthAt(int place, int rain, int storm) {
            int wornNow = rainOn(place, rain);
            growMoss(place, rain);
            int tornNow = stormOn(place, storm);
            worn += wornNow;
            torn += tornNow;
            return wornNow + tornNow;
        }

        void wearRidge(int storm) {
            ridge = Math.max(ridge - storm - 1, 0);
        }

        /** Goes up from the eaves, so that the yealm above, which tells what is bare, is still as it was. */
        private int rainOn(int place, int rain) {
            int gone = 0;
            for (int course = 0; course < courses; course++) {
                if (hasYealm(course, place)) {
                    int at = numberOf(course, place);
                    thicknesses[at] = Math.max(thicknesses[at] - wearBy(rain, course, place), 0);
                    if (thicknesses[at] == 0) {
                        gone++;
                    }
                }
            }
            return gone;
        }

        private int wearBy(int rain, int course, int place) {
            int at = numberOf(course, place);
            int wet = rain + mosses[at] / 3 + (isBare(course, place) ? 2 : 0);
            return wet * (70 - slope) / 100 + (kinds[at] == STRAW ? 1 : 0);
        }

        private void growMoss(int place, int rain) {
            if (rain < 5 || slope >= 45) {
                return;
            }
            for (int course = 0; course < courses; course++) {
                if (hasYealm(course, place)) {
                    int at = numberOf(course, place);
                    mosses[at] = Math.min(mosses[at] + 1, MOST_MOSS);
                }
            }
        }

        /** Goes up from the eaves, for the same reason as the rain. */
        private int stormOn(int place, int storm) {
            int gone = 0;
            for (int course = 0; course < courses; course++) {
                if (wouldTear(course, place, storm)) {
                    thicknesses[numberOf(course, place)] = 0;
                    gone++;
                }
            }
            return gone;
        }

        private boolean wouldTear(int course, int place, int storm) {
            if (!hasYealm(course, place)) {
                return false;
            }
            int at = numberOf(course, place);
            int pull = storm * 2 + (isBare(course, place) ? 3 : 0) + (isEnd(place) ? 2 : 0);
            int hold = 2 * spars[at] + thicknesses[at] / 4 + (isHighest(course) ? ridge / 20 : 0);
            return pull > hold;
        }

        int wouldTearInAll(int storm) {
            int found = 0;
            for (int course = 0; course < courses; course++) {
                for (int place = 0; place < width; place++) {
                    if (wouldTear(course, place, storm)) {
                        found++;
                    }
                }
            }
            return found;
        }
    }

    /** Null behind the last one that is built. */
    private final Roof[] roofs = new Roof[MOST_ROOFS];
    private int built;
    private final int[] barn = new int[KINDS];
    private final int[] rains = new int[MONTHS_OF_YEAR];
    private final int[] storms = new int[MONTHS_OF_YEAR];
    private int month;
    /** Kept for all looking ahead, so that no call of it makes a roof of its own. */
    private final Roof trial = new Roof(LEAST_WIDTH, LEAST_COURSES, LEAST_SLOPE);

    public ThatchRoof() {
        for (int i = 0; i < MONTHS_OF_YEAR; i++) {
            rains[i] = FIRST_RAIN;
        }
    }

    // ---- roofs, barn, weather

    public int build(int width, int courses, int slope) throws IllegalArgumentException, IllegalStateException {
        if (!isWithin(width, LEAST_WIDTH, MOST_WIDTH) || !isWithin(courses, LEAST_COURSES, MOST_COURSES)
                || !isWithin(slope, LEAST_SLOPE, MOST_SLOPE)) {
            throw new IllegalArgumentException("no such shape of a roof");
        }
        if (built >= MOST_ROOFS) {
            throw new IllegalStateException("there are 6 roofs");
        }
        int number = built;
        roofs[number] = new Roof(width, courses, slope);
        built++;
        return number;
    }

    public int bring(int kind, int many)
            throws IndexOutOfBoundsException, IllegalArgumentException, IllegalStateException {
        if (!isKind(kind)) {
            throw new IndexOutOfBoundsException("no such kind");
        }
        if (!isWithin(many, 1, MOST_BUNDLES)) {
            throw new IllegalArgumentException("not 1 to 500 bundles");
        }
        if (barn[kind] + many > MOST_BUNDLES) {
            throw new IllegalStateException("more than the barn holds");
        }
        barn[kind] += many;
        return barn[kind];
    }

    public int setWeather(int month, int rain, int storm)
            throws IndexOutOfBoundsException, IllegalArgumentException {
        if (!isWithin(month, 0, MONTHS_OF_YEAR - 1)) {
            throw new IndexOutOfBoundsException("no such month of the year");
        }
        if (!isWithin(rain, 0, WORST_WEATHER) || !isWithin(storm, 0, WORST_WEATHER)) {
            throw new IllegalArgumentException("rain or storm not 0 to 9");
        }
        int before = 10 * rains[month] + storms[month];
        rains[month] = rain;
        storms[month] = storm;
        return before;
    }

    // ---- thatching

    public int lay(int roof, int course, int place, int kind, int thickness, int spars)
            throws IndexOutOfBoundsException, IllegalArgumentException, IllegalStateException {
        Roof thatched = roofAt(roof);
        if (thatched == null || !thatched.hasPlace(course, place) || !isKind(kind)) {
            throw new IndexOutOfBoundsException("no such roof, course, place or kind");
        }
        if (!isYealm(thickness, spars)) {
            throw new IllegalArgumentException("thickness not 1 to 40, or spars not 0 to 9");
        }
        if (!thatched.canCarry(course, place) || barn[kind] < bundlesFor(thickness)) {
            throw new IllegalStateException("a yealm is there, none is below, or the bundles are too few");
        }
        barn[kind] -= bundlesFor(thickness);
        thatched.putYealm(course, place, kind, thickness, spars);
        return bundlesFor(thickness);
    }

    public int layCourse(int roof, int course, int kind, int thickness, int spars)
            throws IndexOutOfBoundsException, IllegalArgumentException {
        Roof thatched = roofAt(roof);
        if (thatched == null || !thatched.hasCourse(course) || !isKind(kind)) {
            throw new IndexOutOfBoundsException("no such roof, course or kind");
        }
        if (!isYealm(thickness, spars)) {
            throw new IllegalArgumentException("thickness not 1 to 40, or spars not 0 to 9");
        }
        int laid = 0;
        for (int place = 0; place < thatched.wide(); place++) {
            if (thatched.canCarry(course, place) && barn[kind] >= bundlesFor(thickness)) {
                barn[kind] -= bundlesFor(thickness);
                thatched.putYealm(course, place, kind, thickness, spars);
                laid++;
            }
        }
        return laid;
    }

    public int mend(int roof, int course, int place) throws IndexOutOfBoundsException, IllegalStateException {
        Roof thatched = roofAt(roof);
        if (thatched == null || !thatched.hasPlace(course, place)) {
            throw new IndexOutOfBoundsException("no such roof, course or place");
        }
        int kind = thatched.kindAt(course, place);
        if (!isKind(kind) || barn[kind] < BUNDLES_TO_MEND) {
            throw new IllegalStateException("no yealm is there, or the bundles are too few");
        }
        barn[kind] -= BUNDLES_TO_MEND;
        thatched.improve(course, place);
        return thatched.thicknessAt(course, place);
    }

    public int bind(int roof) throws IndexOutOfBoundsException, IllegalStateException {
        Roof thatched = roofAt(roof);
        if (thatched == null) {
            throw new IndexOutOfBoundsException("no such roof");
        }
        if (barn[HEATHER] < thatched.wide()) {
            throw new IllegalStateException("the bundles of heather are too few");
        }
        barn[HEATHER] -= thatched.wide();
        return thatched.renewRidge();
    }

    // ---- what is there

    public int yealm(int roof, int course, int place, int what) throws IndexOutOfBoundsException {
        Roof thatched = roofAt(roof);
        if (thatched == null || !thatched.hasPlace(course, place)
                || !isWithin(what, 0, THINGS_TOLD_OF_YEALM - 1)) {
            throw new IndexOutOfBoundsException("no such roof, course or place, or nothing told by this number");
        }
        return thatched.tellYealm(course, place, what);
    }

    public int roof(int roof, int what) throws IndexOutOfBoundsException {
        Roof thatched = roofAt(roof);
        if (thatched == null || !isWithin(what, 0, THINGS_TOLD_OF_ROOF - 1)) {
            throw new IndexOutOfBoundsException("no such roof, or nothing told by this number");
        }
        return thatched.tell(what);
    }

    public int count(int what) throws IndexOutOfBoundsException {
        if (!isWithin(what, 0, THINGS_COUNTED - 1)) {
            throw new IndexOutOfBoundsException("nothing counted by this number");
        }
        return tally(what);
    }

    // ---- months

    public int pass(int months) throws IllegalArgumentException {
        if (!isWithin(months, 1, MOST_MONTHS_TO_PASS)) {
            throw new IllegalArgumentException("not 1 to 120 months");
        }
        int lost = 0;
        for (int i = 0; i < months; i++) {
            for (int number = 0; number < MOST_ROOFS; number++) {
                Roof thatched = roofs[number];
                if (thatched != null) {
                    lost += thatched.liveMonth(rainAhead(0), stormAhead(0));
                }
            }
            month++;
        }
        return lost;
    }

    // ---- looking ahead

    public int tears(int roof, int storm) throws IndexOutOfBoundsException, IllegalArgumentException {
        Roof thatched = roofAt(roof);
        if (thatched == null) {
            throw new IndexOutOfBoundsException("no such roof");
        }
        if (!isWithin(storm, 0, WORST_WEATHER)) {
            throw new IllegalArgumentException("storm not 0 to 9");
        }
        return thatched.wouldTearInAll(storm);
    }

    public int holds(int roof) throws IndexOutOfBoundsException {
        Roof thatched = roofAt(roof);
        if (thatched == null) {
            throw new IndexOutOfBoundsException("no such roof");
        }
        int leaksNow = thatched.leaks();
        trial.becomeLike(thatched);
        for (int ahead = 0; ahead < MOST_MONTHS_TO_HOLD; ahead++) {
            trial.liveMonth(rainAhead(ahead), stormAhead(ahead));
            if (trial.leaks() > leaksNow) {
                return ahead + 1;
            }
        }
        return -1;
    }

    public int foresee(int roof, int months, int what)
            throws IndexOutOfBoundsException, IllegalArgumentException {
        Roof thatched = roofAt(roof);
        if (thatched == null || !isWithin(what, 0, THINGS_FORESEEN - 1)) {
            throw new IndexOutOfBoundsException("no such roof, or nothing foreseen by this number");
        }
        if (!isWithin(months, 1, MOST_MONTHS_TO_FORESEE)) {
            throw new IllegalArgumentException("not 1 to 60 months");
        }
        trial.becomeLike(thatched);
        for (int ahead = 0; ahead < months; ahead++) {
            trial.liveMonth(rainAhead(ahead), stormAhead(ahead));
        }
        switch (what) {
            case 0:
                return trial.yealms();
            case 1:
                return trial.leaks();
            default:
                return trial.ridgeLeft();
        }
    }

    public int advise(int roof, int months) throws IndexOutOfBoundsException, IllegalArgumentException {
        Roof thatched = roofAt(roof);
        if (thatched == null) {
            throw new IndexOutOfBoundsException("no such roof");
        }
        if (!isWithin(months, 1, MOST_MONTHS_TO_ADVISE)) {
            throw new IllegalArgumentException("not 1 to 24 months");
        }
        int best = -1;
        int mostSaved = 0;
        for (int place = 0; place < thatched.wide(); place++) {
            int lost = lostAt(thatched, place, months, NO_COURSE);
            // a place that loses nothing has nothing to save
            for (int course = 0; course < thatched.high() && lost > 0; course++) {
                int saved = lost - lostAt(thatched, place, months, course);
                int number = thatched.numberOf(course, place);
                if (saved > mostSaved || (saved == mostSaved && number < best)) {
                    mostSaved = saved;
                    best = number;
                }
            }
        }
        return best;
    }

    public int needs(int roof, int thickness) throws IndexOutOfBoundsException, IllegalArgumentException {
        Roof thatched = roofAt(roof);
        if (thatched == null) {
            throw new IndexOutOfBoundsException("no such roof");
        }
        if (!isWithin(thickness, 1, MOST_THICKNESS)) {
            throw new IllegalArgumentException("thickness not 1 to 40");
        }
        int free = thatched.wide() * thatched.high() - thatched.yealms();
        return free * bundlesFor(thickness);
    }

    public double mean() {
        int yealms = 0;
        int thickness = 0;
        for (int number = 0; number < MOST_ROOFS; number++) {
            Roof thatched = roofs[number];
            if (thatched != null) {
                yealms += thatched.yealms();
                thickness += thatched.thicknessInAll();
            }
        }
        return yealms == 0 ? 0.0 : (double) thickness / (double) yealms;
    }

    public long digest() {
        long d = FIRST_DIGEST;
        for (int what = 0; what < THINGS_COUNTED; what++) {
            d = d * 31 + tally(what);
        }
        for (int i = 0; i < MONTHS_OF_YEAR; i++) {
            d = d * 31 + (10 * rains[i] + storms[i]);
        }
        for (int number = 0; number < MOST_ROOFS; number++) {
            Roof thatched = roofs[number];
            if (thatched != null) {
                d = digestRoof(thatched, d);
            }
        }
        return d;
    }

    private static long digestRoof(Roof thatched, long before) {
        long d = before;
        for (int what = 0; what < THINGS_TOLD_OF_ROOF; what++) {
            d = d * 31 + thatched.tell(what);
        }
        for (int course = 0; course < thatched.high(); course++) {
            for (int place = 0; place < thatched.wide(); place++) {
                for (int what = 0; what < THINGS_TOLD_OF_YEALM; what++) {
                    d = d * 31 + thatched.tellYealm(course, place, what);
                }
            }
        }
        return d;
    }

    private static boolean isWithin(int number, int least, int most) {
        return number >= least && number <= most;
    }

    private static boolean isYealm(int thickness, int spars) {
        return isWithin(thickness, 1, MOST_THICKNESS) && isWithin(spars, 0, MOST_SPARS);
    }

    private static boolean isKind(int kind) {
        return isWithin(kind, 0, KINDS - 1);
    }

    private static int bundlesFor(int thickness) {
        return thickness / 4 + 1;
    }

    /** Null if there is no such roof. */
    private Roof roofAt(int number) {
        return isWithin(number, 0, MOST_ROOFS - 1) ? roofs[number] : null;
    }

    /** A floor, not a remainder: the month stays a month of the year even if the count of months wraps around. */
    private int monthOfYear(int ahead) {
        return Math.floorMod(month + ahead, MONTHS_OF_YEAR);
    }

    private int rainAhead(int ahead) {
        return rains[monthOfYear(ahead)];
    }

    private int stormAhead(int ahead) {
        return storms[monthOfYear(ahead)];
    }

    private int tally(int what) {
        switch (what) {
            case 0:
                return month;
            case 1:
                return built;
            case 2:
            case 3:
            case 4:
                return barn[what - 2];
            case 5:
                return tallyOfRoofs(4);
            case 6:
                return tallyOfRoofs(6);
            case 7:
                return rainAhead(0);
            default:
                return stormAhead(0);
        }
    }

    private int tallyOfRoofs(int what) {
        int sum = 0;
        for (int number = 0; number < MOST_ROOFS; number++) {
            Roof thatched = roofs[number];
            if (thatched != null) {
                sum += thatched.tell(what);
            }
        }
        return sum;
    }

    /**
     * How many yealms a place loses if the one of a course is mended ahead of it. A mended yealm is tried
     * at its own place alone, since what happens at a place hangs on no other one.
     */
    private int lostAt(Roof thatched, int place, int months, int mendedCourse) {
        trial.becomeLike(thatched);
        trial.improve(mendedCourse, place);
        int lost = 0;
        for (int ahead = 0; ahead < months; ahead++) {
            lost += trial.liveMonthAt(place, rainAhead(ahead), stormAhead(ahead));
            trial.wearRidge(stormAhead(ahead));
        }
        return lost;
    }
}
