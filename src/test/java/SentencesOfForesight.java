/** Promises 15 to 17, sentence by sentence. */
final class SentencesOfForesight {
    private static final int NONE = BeatenInstead.NONE, UNKNOWN = BeatenInstead.UNKNOWN;
    private static final int OUTSIDE = BeatenInstead.OUTSIDE, STATE = BeatenInstead.STATE;

    private SentencesOfForesight() {
    }

    static void ask(Sentences say) {
        orderMean(say);
        orderLesson(say);
        orderUnknown(say);
        orderOutside(say);
        orderTwentyTimes(say);
        matchMean(say);
        matchBoy(say);
        matchUnknown(say);
        matchOutside(say);
        faultsSets(say);
        faultsNone(say);
        faultsUnknown(say);
        faultsOutside(say);
    }

    /** A PRINCE of that WIT, and one LESSON of HARD 5: he LEARNS it by WIT TENTHS. */
    private static BeatenInstead ofWit(int wit, int blows) {
        BeatenInstead x = Made.school("5" + blows + ";0");
        x.prince(0, wit);
        return x;
    }

    private static long commonDivisor(long a, long b) {
        return b == 0 ? a : commonDivisor(b, a % b);
    }

    private static void orderMean(Sentences say) {
        say.of("Promise 15", "ORDER: what = 0 the MEAN above, 1 below, in lowest terms,");
        for (int wit = 0; wit <= 9; wit++) {
            for (int blows = 1; blows <= 5; blows++) {
                BeatenInstead x = ofWit(wit, blows);
                long above = (10 - wit) * blows;
                long common = commonDivisor(above, 10);
                say.is("above, by " + wit + ", of " + blows, above / common, x.order(0, 0));
                say.is("below, by " + wit + ", of " + blows, 10 / common, x.order(0, 1));
            }
        }
        BeatenInstead x = Made.school("11;0");
        x.prince(0, 9);
        say.is("0 above, for certain", 0, x.order(0, 0));
        say.is("1 below, for certain", 1, x.order(0, 1));
        x.teach(0, 0, true);
        say.is("0 above, with none left", 0, x.order(0, 0));
        say.is("1 below, with none left", 1, x.order(0, 1));
        BeatenInstead y = Made.school("95,95,95,95,95;9");
        y.prince(3, 0);
        say.is("the most above", 25, y.order(0, 0));
        say.is("1 below, with all failed", 1, y.order(0, 1));
        BeatenInstead z = Made.school("31,31,31,31,31;0");
        z.prince(2, 8);
        say.is("nothing to be cut, above", 40951, z.order(0, 0));
        say.is("nothing to be cut, below", 100000, z.order(0, 1));
    }

    private static void orderLesson(Sentences say) {
        say.of("Promise 15", "10 to 14 the so-manieth LESSON (NONE: there is none).");
        for (int lessons = 1; lessons <= 5; lessons++) {
            BeatenInstead x = Made.school("91,92,93,94,95".substring(0, 3 * lessons - 1) + ";0");
            x.prince(0, 0);
            for (int place = 0; place < 5; place++) {
                int want = place < lessons ? place : NONE;
                say.is("at " + place + " of " + lessons, want, x.order(0, 10 + place));
            }
        }
        BeatenInstead x = Made.school("11,11,11,11,11;0");
        x.prince(0, 9);
        x.teach(0, 0, true);
        x.teach(0, 4, true);
        int[] want = {1, 2, 3, NONE, NONE};
        for (int place = 0; place < 5; place++) {
            say.is("of three, at " + place, want[place], x.order(0, 10 + place));
        }
        for (int lesson = 1; lesson <= 3; lesson++) {
            x.teach(0, lesson, true);
        }
        for (int place = 0; place < 5; place++) {
            say.is("of none, at " + place, NONE, x.order(0, 10 + place));
        }
    }

    private static void orderUnknown(Sentences say) {
        say.of("Promise 15", "UNKNOWN;");
        BeatenInstead x = Made.school("51;0");
        say.refused("order(0, 0) without PRINCES", UNKNOWN, x, () -> x.order(0, 0));
        x.prince(0, 5);
        x.prince(0, 5);
        for (int prince : Sentences.off(0, 1)) {
            for (int what : new int[] {-1, 0, 1, 2, 10, 14, 15}) {
                say.refused("order(" + prince + ", " + what + ")", UNKNOWN, x, () -> x.order(prince, what));
            }
        }
        say.is("times done", 0, x.count(8));
    }

    private static void orderOutside(Sentences say) {
        say.of("Promise 15", "OUTSIDE;");
        BeatenInstead x = ofWit(5, 1);
        for (int what : new int[] {-1, 2, 3, 9, 15, -10, Integer.MIN_VALUE, Integer.MIN_VALUE + 9, Integer.MAX_VALUE}) {
            say.refused("order(0, " + what + ")", OUTSIDE, x, () -> x.order(0, what));
        }
        say.is("times done", 0, x.count(8));
        say.is("order(0, 10)", 0, x.order(0, 10));
        say.is("order(0, 14)", NONE, x.order(0, 14));
    }

    private static void orderTwentyTimes(Sentences say) {
        say.of("Promise 15", "STATE: order() was done 20 times.");
        BeatenInstead x = ofWit(5, 1);
        x.prince(0, 5);
        int[] whats = {0, 1, 10, 11, 14};
        int[] want = {1, 2, 0, NONE, NONE};
        for (int time = 0; time < 20; time++) {
            int prince = time % 2;
            say.refused("one that is not done", UNKNOWN, x, () -> x.order(2, 0));
            say.refused("one that is not done", OUTSIDE, x, () -> x.order(prince, 2));
            say.is("time " + (time + 1), want[time % 5], x.order(prince, whats[time % 5]));
            say.is("times done", time + 1, x.count(8));
        }
        for (int what : whats) {
            say.refused("order(0, " + what + ") once more", STATE, x, () -> x.order(0, what));
            say.refused("order(1, " + what + ") once more", STATE, x, () -> x.order(1, what));
        }
        say.refused("UNKNOWN first", UNKNOWN, x, () -> x.order(2, 0));
        say.refused("OUTSIDE first", OUTSIDE, x, () -> x.order(0, 2));
        say.is("times done", 20, x.count(8));
        BeatenInstead y = Made.school("31,31,31,31,31;0");
        y.prince(2, 8);
        for (int time = 0; time < 20; time++) {
            say.is("of five LESSONS, time " + (time + 1), time % 2 == 0 ? 40951 : 100000, y.order(0, time % 2));
        }
        say.refused("of five LESSONS, once more", STATE, y, () -> y.order(0, 0));
        y.image();
        y.restore();
        say.refused("behind restore()", STATE, y, () -> y.order(0, 0));
        Made.type(y, "11;0");
        y.school();
        y.prince(0, 0);
        say.refused("of another SCHOOL", STATE, y, () -> y.order(0, 0));
    }

    private static void matchMean(Sentences say) {
        say.of("Promise 16", "MATCH: what = 0 the MEAN above, 1 below, in lowest terms,");
        for (int wit = 0; wit <= 9; wit++) {
            for (int blows = 1; blows <= 5; blows++) {
                BeatenInstead x = ofWit(wit, blows);
                long above = (10 - wit) * blows;
                for (int princes = 1; princes <= 3; princes++) {
                    long common = commonDivisor(princes * above, 10);
                    say.is("above, by " + wit + ", of " + blows, princes * above / common, x.match(0, 0));
                    say.is("below, by " + wit + ", of " + blows, 10 / common, x.match(0, 1));
                    x.prince(0, wit);
                }
            }
        }
        BeatenInstead x = Made.school("11;0");
        say.is("0 above, without PRINCES", 0, x.match(0, 0));
        say.is("1 below, without PRINCES", 1, x.match(0, 1));
        x.prince(0, 9);
        say.is("0 above, for certain", 0, x.match(0, 0));
        say.is("1 below, for certain", 1, x.match(0, 1));
    }

    private static void matchBoy(Sentences say) {
        say.of("Promise 16", "10 to 12 the BOY of PRINCE 0 to 2 (NONE: there is none such).");
        BeatenInstead x = Made.school("51,11,91;0");
        for (int princes = 0; princes <= 3; princes++) {
            for (int lesson = 0; lesson < 3; lesson++) {
                for (int of = 0; of < 3; of++) {
                    int want = of < princes ? 2 - of : NONE;
                    say.is("of " + of + ", with " + princes, want, x.match(lesson, 10 + of));
                }
            }
            x.prince(0, 2);
            if (princes < 3) {
                x.fond(princes, 2 - princes, 9);
            }
        }
        int[][] ways = {{0, 1, 2}, {0, 2, 1}, {1, 0, 2}, {1, 2, 0}, {2, 0, 1}, {2, 1, 0}};
        for (int[] way : ways) {
            BeatenInstead each = Made.school("51;0");
            for (int prince = 0; prince < 3; prince++) {
                each.prince(0, 0);
                each.fond(prince, way[prince], 9);
            }
            for (int of = 0; of < 3; of++) {
                say.is("of " + of + ", each with his own", way[of], each.match(0, 10 + of));
            }
            say.is("the MEAN of that", 9, each.match(0, 0));
        }
        BeatenInstead y = Made.school("51;0");
        y.prince(0, 5);
        y.image();
        y.prince(0, 5);
        say.is("of one who came since the IMAGE", 1, y.match(0, 11));
        y.restore();
        say.is("of one who is gone", NONE, y.match(0, 11));
    }

    private static void matchUnknown(Sentences say) {
        say.of("Promise 16", "UNKNOWN: lesson;");
        BeatenInstead none = new BeatenInstead();
        say.refused("match(0, 0) without a SCHOOL", UNKNOWN, none, () -> none.match(0, 0));
        BeatenInstead x = Made.school("51,52;0");
        x.prince(0, 5);
        for (int lesson : Sentences.off(0, 1)) {
            for (int what : new int[] {-1, 0, 1, 2, 10, 12, 13}) {
                say.refused("match(" + lesson + ", " + what + ")", UNKNOWN, x, () -> x.match(lesson, what));
            }
        }
        say.is("the last one", 1, x.match(1, 0));
    }

    private static void matchOutside(Sentences say) {
        say.of("Promise 16", "OUTSIDE.");
        BeatenInstead x = ofWit(5, 1);
        for (int what : new int[] {-1, 2, 3, 9, 13, 14, -10, Integer.MIN_VALUE, Integer.MIN_VALUE + 9,
            Integer.MAX_VALUE}) {
            say.refused("match(0, " + what + ")", OUTSIDE, x, () -> x.match(0, what));
        }
    }

    private static void faultsSets(Sentences say) {
        say.of("Promise 17", "FAULTS: what = 0 how many sets, 1 which LESSONS are failed in all, as bits");
        BeatenInstead x = Made.school("51,52,53,54,55;0");
        x.prince(0, 9);
        x.fond(0, 0, 5);
        int[] sets = {1, 1, 1, 2, 2, 3, 3, 3, 3, 3, 3, 2, 2, 1, 1, 1, 0};
        int[] inAll = {0, 1, 2, 0, 0, 0, 0, 0, 0, 0, 0, 18, 24, 29, 30, 31, NONE};
        for (int stripes = 0; stripes < sets.length; stripes++) {
            say.is("sets of " + stripes, sets[stripes], x.faults(0, stripes, 0));
            say.is("failed in all of " + stripes, inAll[stripes], x.faults(0, stripes, 1));
        }
        BeatenInstead y = Made.school("95,95,95,95,95;9");
        y.prince(0, 0);
        say.is("sets of 25", 1, y.faults(0, 25, 0));
        say.is("failed in all of 25", 31, y.faults(0, 25, 1));
    }

    private static void faultsNone(Sentences say) {
        say.of("Promise 17", "(NONE: there are none).");
        BeatenInstead x = ofWit(5, 2);
        int[] sets = {1, 0, 1};
        int[] inAll = {0, NONE, 1};
        for (int stripes = 0; stripes <= 2; stripes++) {
            say.is("sets of " + stripes, sets[stripes], x.faults(0, stripes, 0));
            say.is("failed in all of " + stripes, inAll[stripes], x.faults(0, stripes, 1));
        }
        for (int stripes = 3; stripes <= 25; stripes++) {
            say.is("sets of " + stripes, 0, x.faults(0, stripes, 0));
            say.is("failed in all of " + stripes, NONE, x.faults(0, stripes, 1));
        }
        x.teach(0, 0, true);
        say.is("with none left: sets of 0", 1, x.faults(0, 0, 0));
        say.is("with none left: failed in all of 0", 0, x.faults(0, 0, 1));
        say.is("with none left: failed in all of 2", NONE, x.faults(0, 2, 1));
    }

    private static void faultsUnknown(Sentences say) {
        say.of("Promise 17", "UNKNOWN;");
        BeatenInstead x = Made.school("51;0");
        say.refused("faults(0, 0, 0) without PRINCES", UNKNOWN, x, () -> x.faults(0, 0, 0));
        x.prince(0, 5);
        x.prince(0, 5);
        for (int prince : Sentences.off(0, 1)) {
            say.refused("faults(" + prince + ", 0, 0)", UNKNOWN, x, () -> x.faults(prince, 0, 0));
            say.refused("faults(" + prince + ", 26, 0)", UNKNOWN, x, () -> x.faults(prince, 26, 0));
            say.refused("faults(" + prince + ", 0, 2)", UNKNOWN, x, () -> x.faults(prince, 0, 2));
        }
    }

    private static void faultsOutside(Sentences say) {
        say.of("Promise 17", "OUTSIDE: stripes (0 to 25), what.");
        BeatenInstead x = ofWit(5, 1);
        x.teach(0, 0, false);
        for (int stripes : Sentences.off(0, 25)) {
            say.refused("faults(0, " + stripes + ", 0)", OUTSIDE, x, () -> x.faults(0, stripes, 0));
            say.refused("faults(0, " + stripes + ", 1)", OUTSIDE, x, () -> x.faults(0, stripes, 1));
        }
        for (int what : Sentences.off(0, 1)) {
            say.refused("faults(0, 0, " + what + ")", OUTSIDE, x, () -> x.faults(0, 0, what));
        }
        say.is("the least", 1, x.faults(0, 0, 0));
        say.is("the most", 0, x.faults(0, 25, 0));
    }
}
