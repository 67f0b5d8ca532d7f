/** Promises 18 to 21, sentence by sentence. */
final class SentencesOfHearsay {
    private static final int UNKNOWN = BeatenInstead.UNKNOWN, OUTSIDE = BeatenInstead.OUTSIDE;
    private static final int STATE = BeatenInstead.STATE, FULL = BeatenInstead.FULL;

    private SentencesOfHearsay() {
    }

    static void ask(Sentences say) {
        itIsHeard(say);
        hearUnknown(say);
        hearFull(say);
        forget(say);
        fondnessAsBits(say);
        fondnessUnknown(say);
        schoolsTell(say);
        schoolsOutside(say);
        schoolsState(say);
    }

    private static void itIsHeard(Sentences say) {
        say.of("Promise 18", "It is HEARD: how much is.");
        BeatenInstead x = Made.school("51,91,11;0");
        x.prince(0, 0);
        x.prince(0, 9);
        x.teach(1, 2, true);
        say.is("what could be", 1, x.hear(0, 2, true));
        say.is("what can't be by TENTHS 0", 2, x.hear(0, 1, true));
        say.is("what can't be by TENTHS 10", 3, x.hear(1, 2, false));
        say.is("of what he has LEARNT", 4, x.hear(1, 2, true));
        say.is("the same again", 5, x.hear(1, 2, true));
        say.is("count(5)", 5, x.count(5));
        say.is("he has not LEARNT it by that", 0, x.about(0, 4));
        say.is("his BOY has no STRIPES by that", 0, x.count(3));
        say.is("he is as FOND as before", 5, x.about(0, 10));
    }

    private static void hearUnknown(Sentences say) {
        say.of("Promise 18", "UNKNOWN: prince, lesson;");
        BeatenInstead x = Made.school("51,91,11;0");
        say.refused("hear(0, 0, true) without PRINCES", UNKNOWN, x, () -> x.hear(0, 0, true));
        x.prince(0, 0);
        x.prince(0, 9);
        for (int prince : Sentences.off(0, 1)) {
            say.refused("hear(" + prince + ", 0, true)", UNKNOWN, x, () -> x.hear(prince, 0, true));
        }
        for (int lesson : Sentences.off(0, 2)) {
            say.refused("hear(0, " + lesson + ", false)", UNKNOWN, x, () -> x.hear(0, lesson, false));
        }
        say.is("the last of both", 1, x.hear(1, 2, false));
    }

    private static void hearFull(Sentences say) {
        say.of("Promise 18", "FULL.");
        BeatenInstead x = Made.school("51,91;0");
        x.prince(0, 9);
        x.prince(0, 0);
        x.image();
        for (int heard = 1; heard <= 6; heard++) {
            say.is("there is room for it", heard, x.hear(0, 0, true));
        }
        say.refused("a seventh of him", FULL, x, () -> x.hear(0, 0, true));
        say.refused("a seventh of another", FULL, x, () -> x.hear(1, 1, false));
        say.refused("a seventh, UNKNOWN first", UNKNOWN, x, () -> x.hear(2, 0, true));
        say.refused("a seventh, UNKNOWN first", UNKNOWN, x, () -> x.hear(0, 2, true));
        say.is("FONDNESS of another", 1023, x.fondness(1));
        x.restore();
        say.is("restore() makes room", 1, x.hear(1, 0, true));
        x.forget();
        say.is("forget() makes room", 1, x.hear(1, 0, true));
    }

    private static void forget(Sentences say) {
        say.of("Promise 19", "Nothing is HEARD any more: how much was.");
        BeatenInstead none = new BeatenInstead();
        say.is("forget() without a SCHOOL", 0, none.forget());
        BeatenInstead x = Made.school("51;0");
        say.is("forget() of nobody", 0, x.forget());
        x.prince(0, 5);
        x.prince(0, 5);
        for (int many = 0; many <= 6; many++) {
            for (int heard = 1; heard <= many; heard++) {
                x.hear(heard % 2, 0, true);
            }
            say.is("forget() of " + many, many, x.forget());
            say.is("count(5)", 0, x.count(5));
            say.is("forget() again", 0, x.forget());
            say.is("FONDNESS of 0", 1023, x.fondness(0));
            say.is("FONDNESS of 1", 1023, x.fondness(1));
        }
    }

    private static void fondnessAsBits(Sentences say) {
        say.of("Promise 20", "FONDNESS, as bits.");
        fondnessIs(say, "the whole", "91;0", 4, 9, true, 1023);
        fondnessIs(say, "none", "91;0", 0, 0, true, 0);
        fondnessIs(say, "the least alone", "91;0", 2, 1, true, 1);
        fondnessIs(say, "the most alone", "91;0", 0, 1, true, 512);
        fondnessIs(say, "all but the most", "11;0", 0, 2, false, 511);
        fondnessIs(say, "all but the least", "11;0", 2, 2, false, 1022);
        fondnessIs(say, "a PROUD one from 5 on", "51;0", 1, 1, true, 0x3e0);
        fondnessIs(say, "a PROUD one below 5", "11;0", 1, 6, false, 0x01f);
        fondnessIs(say, "a LAZY one, by twos", "31;0", 3, 1, true, 0x3c0);
        fondnessIs(say, "a HIGH one below 5", "11;0", 4, 4, false, 0x01f);
        BeatenInstead x = Made.school("91,11;0");
        x.prince(0, 3);
        x.hear(0, 0, true);
        say.is("the three most", 0x380, x.fondness(0));
        x.hear(0, 1, false);
        say.is("one in the midst", 0x080, x.fondness(0));
        x.hear(0, 0, false);
        say.is("and what can be at any rate", 0x080, x.fondness(0));
        x.prince(0, 3);
        say.is("of another", 1023, x.fondness(1));
    }

    /** Of one of whom just that is HEARD, while the contrary is HEARD of another. */
    private static void fondnessIs(Sentences say, String of, String page, int kind, int wit, boolean learnt, int want) {
        BeatenInstead x = Made.school(page);
        x.prince(0, 9);
        x.prince(kind, wit);
        x.hear(0, 0, !learnt);
        x.hear(1, 0, learnt);
        say.is(of, want, x.fondness(1));
    }

    private static void fondnessUnknown(Sentences say) {
        say.of("Promise 20", "UNKNOWN.");
        BeatenInstead x = Made.school("51;0");
        say.refused("fondness(0) without PRINCES", UNKNOWN, x, () -> x.fondness(0));
        x.prince(0, 5);
        x.prince(0, 5);
        for (int prince : Sentences.off(0, 1)) {
            say.refused("fondness(" + prince + ")", UNKNOWN, x, () -> x.fondness(prince));
        }
        say.is("the last", 1023, x.fondness(1));
    }

    private static void schoolsTell(Sentences say) {
        say.of("Promise 21", "SCHOOLS: what = 0 BLOWS, 1 how many are LEARNT, 2 the SEED then.");
        BeatenInstead x = Made.school("95,95,95,95,95;0");
        for (int prince = 0; prince < 3; prince++) {
            x.prince(0, 0);
        }
        long before = x.digest();
        say.is("the most BLOWS", 1500, x.schools(20, 0, 0));
        say.is("none is LEARNT", 0, x.schools(20, 0, 1));
        say.is("digest(), as nothing has come", before, x.digest());
        BeatenInstead y = Made.school("11,11,11,11,11;0");
        for (int prince = 0; prince < 3; prince++) {
            y.prince(4, 9);
        }
        say.is("no BLOWS", 0, y.schools(1, 9, 0));
        say.is("all are LEARNT", 15, y.schools(1, 9, 1));
        say.is("the SEED is that of the first time", y.schools(1, 9, 2), y.schools(20, 9, 2));
        for (int prince = 0; prince < 3; prince++) {
            for (int lesson = 0; lesson < 5; lesson++) {
                y.teach(prince, lesson, true);
            }
        }
        say.is("with none left: BLOWS", 0, y.schools(20, 9, 0));
        say.is("with none left: LEARNT", 15, y.schools(20, 9, 1));
        say.is("with none left: the SEED stays", 9, y.schools(20, 9, 2));
        say.is("with none left: the greatest SEED stays", Integer.MAX_VALUE, y.schools(1, Integer.MAX_VALUE, 2));
    }

    private static void schoolsOutside(Sentences say) {
        say.of("Promise 21", "OUTSIDE: times (1 to 20), seed (0 at least), what;");
        BeatenInstead x = Made.school("91;0");
        x.prince(0, 0);
        for (int times : Sentences.off(1, 20)) {
            say.refused("schools(" + times + ", 0, 0)", OUTSIDE, x, () -> x.schools(times, 0, 0));
        }
        for (int seed : new int[] {-1, -2, Integer.MIN_VALUE}) {
            say.refused("schools(1, " + seed + ", 0)", OUTSIDE, x, () -> x.schools(1, seed, 0));
        }
        for (int what : Sentences.off(0, 2)) {
            say.refused("schools(1, 0, " + what + ")", OUTSIDE, x, () -> x.schools(1, 0, what));
        }
        say.is("the least of times and seed", 1, x.schools(1, 0, 0));
        say.is("the most of times and seed", 20, x.schools(20, Integer.MAX_VALUE, 0));
    }

    private static void schoolsState(Sentences say) {
        say.of("Promise 21", "STATE: there are no PRINCES.");
        BeatenInstead none = new BeatenInstead();
        say.refused("schools(1, 0, 0) without a SCHOOL", STATE, none, () -> none.schools(1, 0, 0));
        BeatenInstead x = Made.school("91;0");
        x.image();
        for (int what = 0; what <= 2; what++) {
            int of = what;
            say.refused("schools(1, 0, " + what + ")", STATE, x, () -> x.schools(1, 0, of));
        }
        say.refused("schools(0, 0, 0), OUTSIDE first", OUTSIDE, x, () -> x.schools(0, 0, 0));
        say.refused("schools(1, -1, 0), OUTSIDE first", OUTSIDE, x, () -> x.schools(1, -1, 0));
        say.refused("schools(1, 0, 3), OUTSIDE first", OUTSIDE, x, () -> x.schools(1, 0, 3));
        x.prince(0, 0);
        say.is("with one", 1, x.schools(1, 0, 0));
        x.restore();
        say.refused("schools(1, 0, 0) when he is gone", STATE, x, () -> x.schools(1, 0, 0));
    }
}
