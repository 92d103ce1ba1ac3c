/** Villages that a test begins with. */
final class Villages {
    private Villages() {
    }

    /** The barn filled, and no rain and no storm in any month. */
    static ThatchRoof calm() {
        ThatchRoof x = new ThatchRoof();
        for (int kind = 0; kind < 3; kind++) {
            x.bring(kind, 500);
        }
        weather(x, 0, 0);
        return x;
    }

    static void weather(ThatchRoof x, int rain, int storm) {
        for (int m = 0; m < 12; m++) {
            x.setWeather(m, rain, storm);
        }
    }

    /** Calm, with a roof that has no thatch yet. */
    static ThatchRoof withRoof(int width, int courses, int slope) {
        ThatchRoof x = calm();
        x.build(width, courses, slope);
        return x;
    }

    /** Calm, with a roof that is full of reed, as thick and as well held as it can be. */
    static ThatchRoof thatched(int width, int courses, int slope) {
        ThatchRoof x = withRoof(width, courses, slope);
        for (int course = 0; course < courses; course++) {
            x.layCourse(0, course, 0, 40, 9);
        }
        return x;
    }
}
