/** Promises 8 to 14, sentence by sentence. */
final class SentencesOfPrinces {
    private static final int NONE = BeatenInstead.NONE, UNKNOWN = BeatenInstead.UNKNOWN;
    private static final int OUTSIDE = BeatenInstead.OUTSIDE, STATE = BeatenInstead.STATE, FULL = BeatenInstead.FULL;

    private SentencesOfPrinces() {
    }

    static void ask(Sentences say) {
        princeIsANumber(say);
        princeOutside(say);
        princeState(say);
        princeFull(say);
        aboutAPrince(say);
        aboutWhomHeIsFondOf(say);
        aboutUnknown(say);
        aboutOutside(say);
        asAKind(say);
        asNone(say);
        asUnknown(say);
        asOutside(say);
        giveAnother(say);
        giveUnknown(say);
        fondBySoMuch(say);
        fondUnknown(say);
        fondOutside(say);
        tenthsNow(say);
        tenthsUnknown(say);
        teachLearns(say);
        teachUnknown(say);
        teachState(say);
    }

    /** LESSONS of HARD 1, 5 and 9; two PRINCES, with WIT 0 and 9. */
    private static BeatenInstead twoPrinces() {
        BeatenInstead x = Made.school("15,54,93;4");
        x.prince(0, 0);
        x.prince(4, 9);
        return x;
    }

    private static void princeIsANumber(Sentences say) {
        say.of("Promise 8", "A PRINCE: his number.");
        for (int kind = 0; kind <= 4; kind++) {
            BeatenInstead x = Made.school("15;0");
            for (int number = 0; number <= 2; number++) {
                say.is("kind " + kind, number, x.prince(kind, 0));
            }
        }
    }

    private static void princeOutside(Sentences say) {
        say.of("Promise 8", "OUTSIDE: kind, wit;");
        BeatenInstead x = Made.school("15;0");
        for (int kind : Sentences.off(0, 4)) {
            say.refused("prince(" + kind + ", 0)", OUTSIDE, x, () -> x.prince(kind, 0));
        }
        for (int wit : Sentences.off(0, 9)) {
            say.refused("prince(4, " + wit + ")", OUTSIDE, x, () -> x.prince(4, wit));
            say.refused("prince(-1, " + wit + ")", OUTSIDE, x, () -> x.prince(-1, wit));
        }
        say.is("least of both", 0, x.prince(0, 0));
        say.is("most of both", 1, x.prince(4, 9));
    }

    private static void princeState(Sentences say) {
        say.of("Promise 8", "STATE: no SCHOOL;");
        BeatenInstead x = new BeatenInstead();
        say.refused("prince(0, 0)", STATE, x, () -> x.prince(0, 0));
        say.refused("prince(4, 9)", STATE, x, () -> x.prince(4, 9));
        say.refused("prince(5, 9), OUTSIDE first", OUTSIDE, x, () -> x.prince(5, 9));
        Made.type(x, "15;0");
        say.refused("prince(0, 0) while it is on THE PAGE only", STATE, x, () -> x.prince(0, 0));
        x.school();
        say.is("prince(0, 0)", 0, x.prince(0, 0));
    }

    private static void princeFull(Sentences say) {
        say.of("Promise 8", "FULL.");
        BeatenInstead x = Made.school("15;0");
        x.image();
        x.prince(0, 0);
        x.prince(0, 0);
        say.is("the last that there is room for", 2, x.prince(0, 0));
        say.refused("a fourth", FULL, x, () -> x.prince(4, 9));
        say.refused("a fourth, OUTSIDE first", OUTSIDE, x, () -> x.prince(4, 10));
        x.restore();
        say.is("restore() makes room", 0, x.prince(1, 1));
        x.prince(1, 1);
        x.prince(1, 1);
        say.refused("a fourth again", FULL, x, () -> x.prince(1, 1));
        Made.type(x, "11;1");
        x.school();
        say.is("another SCHOOL makes room", 0, x.prince(2, 2));
    }

    private static void aboutAPrince(Sentences say) {
        say.of("Promise 9", "Of a PRINCE: what = 0 KIND, 1 WIT, 2 his BOY, 3 what he FEELS,"
                + " 4 LESSONS that he has LEARNT, as bits,");
        BeatenInstead x = Made.school("11,11,11,11,11;0");
        int[][] want = {{0, 0, 0, 5, 0}, {2, 5, 1, 4, 0}, {4, 9, 2, 7, 0}};
        for (int prince = 0; prince < 3; prince++) {
            x.prince(want[prince][0], want[prince][1]);
        }
        for (int prince = 0; prince < 3; prince++) {
            for (int what = 0; what <= 4; what++) {
                say.is("about(" + prince + ", " + what + ")", want[prince][what], x.about(prince, what));
            }
        }
        int[] bits = {16, 17, 25, 27, 31};
        int[] lessons = {4, 0, 3, 1, 2};
        for (int i = 0; i < 5; i++) {
            x.teach(2, lessons[i], true);
            say.is("LEARNT", bits[i], x.about(2, 4));
            say.is("LEARNT by another", 0, x.about(1, 4));
        }
        x.give(2, 0);
        x.fond(2, 0, 9);
        say.is("his BOY since", 0, x.about(2, 2));
        say.is("what he FEELS since", 11, x.about(2, 3));
    }

    private static void aboutWhomHeIsFondOf(Sentences say) {
        say.of("Promise 9", "10 to 12 how FOND he is of BOY 0 to 2.");
        BeatenInstead x = twoPrinces();
        for (int boy = 0; boy < 3; boy++) {
            say.is("at first", 5, x.about(1, 10 + boy));
            x.fond(1, boy, 3 * boy);
        }
        for (int boy = 0; boy < 3; boy++) {
            say.is("since", 3 * boy, x.about(1, 10 + boy));
            say.is("another one", 5, x.about(0, 10 + boy));
        }
    }

    private static void aboutUnknown(Sentences say) {
        say.of("Promise 9", "UNKNOWN;");
        BeatenInstead x = twoPrinces();
        for (int prince : Sentences.off(0, 1)) {
            for (int what : new int[] {-1, 0, 2, 3, 4, 5, 10, 12, 13}) {
                say.refused("about(" + prince + ", " + what + ")", UNKNOWN, x, () -> x.about(prince, what));
            }
        }
    }

    private static void aboutOutside(Sentences say) {
        say.of("Promise 9", "OUTSIDE.");
        BeatenInstead x = twoPrinces();
        for (int what : new int[] {-1, 5, 6, 7, 8, 9, 13, Integer.MIN_VALUE, Integer.MAX_VALUE, -10, 110}) {
            say.refused("about(0, " + what + ")", OUTSIDE, x, () -> x.about(0, what));
        }
        for (int over = 0; over < 3; over++) {
            int what = Integer.MIN_VALUE + 7 + over;
            say.refused("about(0, " + what + ")", OUTSIDE, x, () -> x.about(0, what));
        }
    }

    private static void asAKind(Sentences say) {
        say.of("Promise 10", "A PRINCE taken as a KIND: his number;");
        int[][] is = {{0}, {0, 1}, {0, 2}, {0, 3}, {0, 1, 4}};
        for (int kind = 0; kind <= 4; kind++) {
            BeatenInstead x = Made.school("15;0");
            for (int prince = 0; prince < 3; prince++) {
                x.prince(kind, 0);
                for (int as : is[kind]) {
                    say.is("as(" + prince + ", " + as + ") of kind " + kind, prince, x.as(prince, as));
                }
                say.is("his KIND stays", kind, x.about(prince, 0));
            }
        }
    }

    private static void asNone(Sentences say) {
        say.of("Promise 10", "NONE: he is none such (the cast fails).");
        int[][] isNot = {{1, 2, 3, 4}, {2, 3, 4}, {1, 3, 4}, {1, 2, 4}, {2, 3}};
        for (int kind = 0; kind <= 4; kind++) {
            BeatenInstead x = Made.school("15;0");
            x.prince(0, 0);
            x.prince(kind, 0);
            for (int as : isNot[kind]) {
                say.is("as(1, " + as + ") of kind " + kind, NONE, x.as(1, as));
            }
        }
    }

    private static void asUnknown(Sentences say) {
        say.of("Promise 10", "UNKNOWN;");
        BeatenInstead x = twoPrinces();
        for (int prince : Sentences.off(0, 1)) {
            for (int kind : new int[] {-1, 0, 4, 5}) {
                say.refused("as(" + prince + ", " + kind + ")", UNKNOWN, x, () -> x.as(prince, kind));
            }
        }
    }

    private static void asOutside(Sentences say) {
        say.of("Promise 10", "OUTSIDE.");
        BeatenInstead x = twoPrinces();
        for (int kind : Sentences.off(0, 4)) {
            say.refused("as(0, " + kind + ")", OUTSIDE, x, () -> x.as(0, kind));
            say.refused("as(1, " + kind + ")", OUTSIDE, x, () -> x.as(1, kind));
        }
    }

    private static void giveAnother(Sentences say) {
        say.of("Promise 11", "His BOY becomes another one: who it was (two may have one).");
        BeatenInstead x = twoPrinces();
        say.is("give(0, 2)", 0, x.give(0, 2));
        say.is("give(0, 1), whom another has", 2, x.give(0, 1));
        say.is("the other has him still", 1, x.about(1, 2));
        say.is("give(0, 1), whom he has", 1, x.give(0, 1));
        say.is("give(0, 0)", 1, x.give(0, 0));
        say.is("BOY of 0", 0, x.about(0, 2));
        x.give(1, 0);
        x.teach(0, 0, false);
        say.is("STRIPES of both their failings", 8, x.teach(1, 2, false));
    }

    private static void giveUnknown(Sentences say) {
        say.of("Promise 11", "UNKNOWN: prince, boy.");
        BeatenInstead x = twoPrinces();
        for (int prince : Sentences.off(0, 1)) {
            say.refused("give(" + prince + ", 0)", UNKNOWN, x, () -> x.give(prince, 0));
        }
        for (int boy : Sentences.off(0, 2)) {
            say.refused("give(1, " + boy + ")", UNKNOWN, x, () -> x.give(1, boy));
        }
        say.is("the last PRINCE, the last BOY", 1, x.give(1, 2));
    }

    private static void fondBySoMuch(Sentences say) {
        say.of("Promise 12", "He is FOND of a BOY by so much: by how much he was.");
        BeatenInstead x = twoPrinces();
        for (int boy = 0; boy < 3; boy++) {
            int before = 5;
            for (int v = 0; v <= 9; v++) {
                say.is("fond(1, " + boy + ", " + v + ")", before, x.fond(1, boy, v));
                say.is("since", v, x.about(1, 10 + boy));
                say.is("another one", 5, x.about(0, 10 + boy));
                before = v;
            }
            say.is("the same again", 9, x.fond(1, boy, 9));
        }
    }

    private static void fondUnknown(Sentences say) {
        say.of("Promise 12", "UNKNOWN: prince, boy;");
        BeatenInstead x = twoPrinces();
        for (int prince : Sentences.off(0, 1)) {
            say.refused("fond(" + prince + ", 0, 0)", UNKNOWN, x, () -> x.fond(prince, 0, 0));
            say.refused("fond(" + prince + ", 0, 10)", UNKNOWN, x, () -> x.fond(prince, 0, 10));
        }
        for (int boy : Sentences.off(0, 2)) {
            say.refused("fond(0, " + boy + ", 0)", UNKNOWN, x, () -> x.fond(0, boy, 0));
            say.refused("fond(0, " + boy + ", -1)", UNKNOWN, x, () -> x.fond(0, boy, -1));
        }
    }

    private static void fondOutside(Sentences say) {
        say.of("Promise 12", "OUTSIDE: v (0 to 9).");
        BeatenInstead x = twoPrinces();
        for (int v : Sentences.off(0, 9)) {
            say.refused("fond(1, 2, " + v + ")", OUTSIDE, x, () -> x.fond(1, 2, v));
        }
        say.is("the least", 5, x.fond(1, 2, 0));
        say.is("the most", 0, x.fond(1, 2, 9));
    }

    private static void tenthsNow(Sentences say) {
        say.of("Promise 13", "TENTHS by which he LEARNS a LESSON now.");
        BeatenInstead x = twoPrinces();
        int[][] want = {{4, 0, 0}, {10, 10, 7}};
        for (int prince = 0; prince < 2; prince++) {
            for (int lesson = 0; lesson < 3; lesson++) {
                int tenths = want[prince][lesson];
                say.is("tenths(" + prince + ", " + lesson + ")", tenths, x.tenths(prince, lesson));
            }
        }
        x.teach(0, 1, false);
        say.is("FONDER", 5, x.tenths(0, 0));
        x.teach(0, 1, false);
        say.is("COLDER", 3, x.tenths(0, 0));
        x.teach(0, 0, true);
        say.is("of what he has LEARNT", 3, x.tenths(0, 0));
        x.give(0, 2);
        say.is("of another BOY", 4, x.tenths(0, 0));
        x.fond(0, 2, 9);
        say.is("more FOND of him", 8, x.tenths(0, 0));
        x.fond(0, 2, 1);
        say.is("0 at least, just", 0, x.tenths(0, 0));
    }

    private static void tenthsUnknown(Sentences say) {
        say.of("Promise 13", "UNKNOWN: prince, lesson.");
        BeatenInstead x = twoPrinces();
        for (int prince : Sentences.off(0, 1)) {
            say.refused("tenths(" + prince + ", 0)", UNKNOWN, x, () -> x.tenths(prince, 0));
        }
        for (int lesson : Sentences.off(0, 2)) {
            say.refused("tenths(0, " + lesson + ")", UNKNOWN, x, () -> x.tenths(0, lesson));
        }
        say.is("the last of both", 7, x.tenths(1, 2));
    }

    private static void teachLearns(Sentences say) {
        say.of("Promise 14", "A LESSON is set: he LEARNS it, or fails: how many STRIPES his BOY has then.");
        BeatenInstead x = twoPrinces();
        say.is("he fails", 5, x.teach(0, 0, false));
        say.is("LEARNT", 0, x.about(0, 4));
        say.is("he fails again", 10, x.teach(0, 0, false));
        say.is("the other LEARNS", 0, x.teach(1, 2, true));
        say.is("LEARNT", 4, x.about(1, 4));
        x.give(1, 0);
        say.is("LEARNING, with what his BOY has", 10, x.teach(1, 0, true));
        say.is("as FOND as before", 5, x.about(1, 10));
        say.is("STRIPES of all", 10, x.count(3));
    }

    private static void teachUnknown(Sentences say) {
        say.of("Promise 14", "UNKNOWN: prince, lesson;");
        BeatenInstead x = twoPrinces();
        x.teach(1, 0, true);
        for (int prince : Sentences.off(0, 1)) {
            say.refused("teach(" + prince + ", 0, true)", UNKNOWN, x, () -> x.teach(prince, 0, true));
            say.refused("teach(" + prince + ", 0, false)", UNKNOWN, x, () -> x.teach(prince, 0, false));
        }
        for (int lesson : Sentences.off(0, 2)) {
            say.refused("teach(1, " + lesson + ", true)", UNKNOWN, x, () -> x.teach(1, lesson, true));
            say.refused("teach(0, " + lesson + ", false)", UNKNOWN, x, () -> x.teach(0, lesson, false));
        }
    }

    private static void teachState(Sentences say) {
        say.of("Promise 14", "STATE: he has LEARNT it, or it cannot be so (TENTHS 0, or 10).");
        BeatenInstead x = twoPrinces();
        say.refused("LEARNING by 0", STATE, x, () -> x.teach(0, 1, true));
        say.refused("failing by 10", STATE, x, () -> x.teach(1, 1, false));
        x.fond(0, 0, 6);
        say.is("failing by 1", 4, x.teach(0, 1, false));
        x.fond(0, 0, 6);
        say.is("LEARNING by 1", 4, x.teach(0, 1, true));
        say.refused("LEARNING what he has LEARNT", STATE, x, () -> x.teach(0, 1, true));
        say.refused("failing what he has LEARNT", STATE, x, () -> x.teach(0, 1, false));
        x.fond(1, 1, 9);
        say.is("a HIGH one, by 9 and 11 less 9", 10, x.tenths(1, 2));
        say.refused("failing by more than 10", STATE, x, () -> x.teach(1, 2, false));
        x.fond(1, 1, 7);
        say.is("failing by 9", 3, x.teach(1, 2, false));
        x.fond(1, 1, 7);
        say.is("LEARNING by 9", 3, x.teach(1, 2, true));
    }
}
