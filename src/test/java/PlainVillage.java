import java.util.ArrayList;
import java.util.List;

/**
 * The document again, told step by step in the plainest way, with a picture of each step's start,
 * so that ThatchRoof can be held against it. Nothing here is taken from ThatchRoof.
 */
final class PlainVillage {
    private static final class Yealm {
        final int kind;
        int thickness;
        int spars;
        int moss;

        Yealm(int kind, int thickness, int spars, int moss) {
            this.kind = kind;
            this.thickness = thickness;
            this.spars = spars;
            this.moss = moss;
        }
    }

    private static final class House {
        int width;
        int courses;
        int slope;
        int ridge = 100;
        int torn;
        int worn;
        Yealm[][] thatch;

        House(int width, int courses, int slope) {
            this.width = width;
            this.courses = courses;
            this.slope = slope;
            thatch = new Yealm[courses][width];
        }

        House copy() {
            House h = new House(width, courses, slope);
            h.ridge = ridge;
            h.torn = torn;
            h.worn = worn;
            for (int c = 0; c < courses; c++) {
                for (int p = 0; p < width; p++) {
                    Yealm y = thatch[c][p];
                    h.thatch[c][p] = y == null ? null : new Yealm(y.kind, y.thickness, y.spars, y.moss);
                }
            }
            return h;
        }

        boolean bare(int c, int p) {
            return c < courses - 1 && thatch[c + 1][p] == null;
        }

        int yealms() {
            int n = 0;
            for (Yealm[] row : thatch) {
                for (Yealm y : row) {
                    n += y == null ? 0 : 1;
                }
            }
            return n;
        }

        int thickness() {
            int n = 0;
            for (Yealm[] row : thatch) {
                for (Yealm y : row) {
                    n += y == null ? 0 : y.thickness;
                }
            }
            return n;
        }

        int leaks() {
            int n = 0;
            for (int p = 0; p < width; p++) {
                int sum = 0;
                for (int c = 0; c < courses; c++) {
                    sum += thatch[c][p] == null ? 0 : thatch[c][p].thickness;
                }
                n += sum < 8 * courses || thatch[courses - 1][p] == null ? 1 : 0;
            }
            return n;
        }

        boolean torn(int c, int p, int storm) {
            Yealm y = thatch[c][p];
            if (y == null) {
                return false;
            }
            int pull = storm * 2;
            if (bare(c, p)) {
                pull += 3;
            }
            if (p == 0 || p == width - 1) {
                pull += 2;
            }
            int hold = 2 * y.spars + y.thickness / 4;
            if (c == courses - 1) {
                hold += ridge / 20;
            }
            return pull > hold;
        }

        int wouldTear(int storm) {
            int n = 0;
            for (int c = 0; c < courses; c++) {
                for (int p = 0; p < width; p++) {
                    n += torn(c, p, storm) ? 1 : 0;
                }
            }
            return n;
        }

        int month(int rain, int storm) {
            int before = yealms();
            House ahead = copy();
            for (int c = 0; c < courses; c++) {
                for (int p = 0; p < width; p++) {
                    Yealm y = thatch[c][p];
                    if (y != null) {
                        int wet = rain + y.moss / 3 + (ahead.bare(c, p) ? 2 : 0);
                        y.thickness -= wet * (70 - slope) / 100;
                        if (y.kind == 1) {
                            y.thickness -= 1;
                        }
                        if (y.thickness <= 0) {
                            thatch[c][p] = null;
                            worn++;
                        }
                    }
                }
            }
            for (Yealm[] row : thatch) {
                for (Yealm y : row) {
                    if (y != null && rain >= 5 && slope < 45 && y.moss < 9) {
                        y.moss++;
                    }
                }
            }
            ahead = copy();
            for (int c = 0; c < courses; c++) {
                for (int p = 0; p < width; p++) {
                    if (ahead.torn(c, p, storm)) {
                        thatch[c][p] = null;
                        torn++;
                    }
                }
            }
            ridge -= storm + 1;
            if (ridge < 0) {
                ridge = 0;
            }
            return before - yealms();
        }
    }

    private final List<House> houses = new ArrayList<>();
    private final int[] barn = new int[3];
    private final int[] rain = {4, 4, 4, 4, 4, 4, 4, 4, 4, 4, 4, 4};
    private final int[] storm = new int[12];
    private int month;

    private static void index(boolean good) {
        if (!good) {
            throw new IndexOutOfBoundsException();
        }
    }

    private static void argument(boolean good) {
        if (!good) {
            throw new IllegalArgumentException();
        }
    }

    private static void state(boolean good) {
        if (!good) {
            throw new IllegalStateException();
        }
    }

    private static boolean in(int n, int least, int most) {
        return least <= n && n <= most;
    }

    private House house(int n) {
        index(in(n, 0, houses.size() - 1));
        return houses.get(n);
    }

    private House house(int n, int course, int place) {
        House h = house(n);
        index(in(course, 0, h.courses - 1) && in(place, 0, h.width - 1));
        return h;
    }

    int build(int width, int courses, int slope) {
        argument(in(width, 2, 10) && in(courses, 2, 6) && in(slope, 30, 60));
        state(houses.size() < 6);
        houses.add(new House(width, courses, slope));
        return houses.size() - 1;
    }

    int bring(int kind, int many) {
        index(in(kind, 0, 2));
        argument(in(many, 1, 500));
        state(barn[kind] + many <= 500);
        return barn[kind] += many;
    }

    int setWeather(int m, int r, int s) {
        index(in(m, 0, 11));
        argument(in(r, 0, 9) && in(s, 0, 9));
        int before = 10 * rain[m] + storm[m];
        rain[m] = r;
        storm[m] = s;
        return before;
    }

    int lay(int roof, int course, int place, int kind, int thickness, int spars) {
        House h = house(roof, course, place);
        index(in(kind, 0, 2));
        argument(in(thickness, 1, 40) && in(spars, 0, 9));
        state(h.thatch[course][place] == null);
        state(course == 0 || h.thatch[course - 1][place] != null);
        int used = 1 + thickness / 4;
        state(barn[kind] >= used);
        barn[kind] -= used;
        h.thatch[course][place] = new Yealm(kind, thickness, spars, 0);
        return used;
    }

    int layCourse(int roof, int course, int kind, int thickness, int spars) {
        House h = house(roof, course, 0);
        index(in(kind, 0, 2));
        argument(in(thickness, 1, 40) && in(spars, 0, 9));
        int laid = 0;
        for (int place = 0; place < h.width; place++) {
            try {
                lay(roof, course, place, kind, thickness, spars);
                laid++;
            } catch (IllegalStateException e) {
                continue;
            }
        }
        return laid;
    }

    int mend(int roof, int course, int place) {
        House h = house(roof, course, place);
        Yealm y = h.thatch[course][place];
        state(y != null);
        state(barn[y.kind] >= 3);
        barn[y.kind] -= 3;
        better(y);
        return y.thickness;
    }

    private static void better(Yealm y) {
        y.moss = 0;
        y.spars = y.spars + 2 > 9 ? 9 : y.spars + 2;
        y.thickness = y.thickness + 10 > 40 ? 40 : y.thickness + 10;
    }

    int bind(int roof) {
        House h = house(roof);
        state(barn[2] >= h.width);
        barn[2] -= h.width;
        int before = h.ridge;
        h.ridge = 100;
        return before;
    }

    int yealm(int roof, int course, int place, int what) {
        House h = house(roof, course, place);
        index(in(what, 0, 5));
        Yealm y = h.thatch[course][place];
        int[] told = y == null ? new int[] {0, -1, 0, 0, 0, 0}
                : new int[] {1, y.kind, y.thickness, y.spars, y.moss, h.bare(course, place) ? 1 : 0};
        return told[what];
    }

    int roof(int roof, int what) {
        House h = house(roof);
        index(in(what, 0, 8));
        return new int[] {h.width, h.courses, h.slope, h.ridge, h.yealms(), h.thickness(), h.leaks(), h.torn,
            h.worn}[what];
    }

    int count(int what) {
        index(in(what, 0, 8));
        int yealms = 0;
        int leaks = 0;
        for (House h : houses) {
            yealms += h.yealms();
            leaks += h.leaks();
        }
        return new int[] {month, houses.size(), barn[0], barn[1], barn[2], yealms, leaks, rain[month % 12],
            storm[month % 12]}[what];
    }

    int pass(int months) {
        argument(in(months, 1, 120));
        int lost = 0;
        for (int i = 0; i < months; i++) {
            for (House h : houses) {
                lost += h.month(rain[month % 12], storm[month % 12]);
            }
            month++;
        }
        return lost;
    }

    int tears(int roof, int s) {
        House h = house(roof);
        argument(in(s, 0, 9));
        return h.wouldTear(s);
    }

    private House later(House h, int months) {
        House then = h.copy();
        for (int m = month; m < month + months; m++) {
            then.month(rain[m % 12], storm[m % 12]);
        }
        return then;
    }

    int holds(int roof) {
        House h = house(roof);
        House then = h.copy();
        for (int i = 1; i <= 120; i++) {
            then.month(rain[(month + i - 1) % 12], storm[(month + i - 1) % 12]);
            if (then.leaks() > h.leaks()) {
                return i;
            }
        }
        return -1;
    }

    int foresee(int roof, int months, int what) {
        House h = house(roof);
        index(in(what, 0, 2));
        argument(in(months, 1, 60));
        House then = later(h, months);
        return new int[] {then.yealms(), then.leaks(), then.ridge}[what];
    }

    int advise(int roof, int months) {
        House h = house(roof);
        argument(in(months, 1, 24));
        int most = later(h, months).yealms();
        int best = -1;
        for (int n = 0; n < h.width * h.courses; n++) {
            House tried = h.copy();
            Yealm y = tried.thatch[n / h.width][n % h.width];
            if (y != null) {
                better(y);
                int left = later(tried, months).yealms();
                if (left > most) {
                    most = left;
                    best = n;
                }
            }
        }
        return best;
    }

    int needs(int roof, int thickness) {
        House h = house(roof);
        argument(in(thickness, 1, 40));
        return (h.width * h.courses - h.yealms()) * (1 + thickness / 4);
    }

    double mean() {
        double sum = 0;
        int n = 0;
        for (House h : houses) {
            sum += h.thickness();
            n += h.yealms();
        }
        return n == 0 ? 0 : sum / n;
    }

    long digest() {
        List<Integer> told = new ArrayList<>();
        for (int what = 0; what <= 8; what++) {
            told.add(count(what));
        }
        for (int m = 0; m < 12; m++) {
            told.add(10 * rain[m] + storm[m]);
        }
        for (int r = 0; r < houses.size(); r++) {
            for (int what = 0; what <= 8; what++) {
                told.add(roof(r, what));
            }
            for (int n = 0; n < houses.get(r).width * houses.get(r).courses; n++) {
                for (int what = 0; what <= 5; what++) {
                    told.add(yealm(r, n / houses.get(r).width, n % houses.get(r).width, what));
                }
            }
        }
        long d = 739;
        for (int x : told) {
            d = d * 31 + x;
        }
        return d;
    }
}
