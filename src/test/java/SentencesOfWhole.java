import java.math.BigInteger;

/** Promises 22 to 25, sentence by sentence. */
final class SentencesOfWhole {
    private static final int UNKNOWN = BeatenInstead.UNKNOWN, OUTSIDE = BeatenInstead.OUTSIDE;
    private static final int STATE = BeatenInstead.STATE;

    private SentencesOfWhole() {
    }

    static void ask(Sentences say) {
        imageIsKept(say);
        imageState(say);
        restoreGoesOn(say);
        restoreState(say);
        countHowMany(say);
        countOutside(say);
        digestWraps(say);
        digestOfASchool(say);
        digestOfLessons(say);
        digestOfPrinces(say);
        digestOfLetters(say);
        digestOfCounts(say);
    }

    private static void imageIsKept(Sentences say) {
        say.of("Promise 22", "An IMAGE is kept (one; the latest): STRIPES of all BOYS.");
        BeatenInstead x = Made.school("93;0");
        say.is("image() of nobody", 0, x.image());
        for (int prince = 0; prince < 3; prince++) {
            x.prince(0, 0);
            x.teach(prince, 0, false);
            say.is("image()", 3 * (prince + 1), x.image());
        }
        x.fond(0, 0, 9);
        say.is("the same again", 9, x.image());
        x.fond(0, 0, 1);
        x.teach(0, 0, false);
        say.is("restore() of the latest", 9, x.restore());
        say.is("as FOND as by the latest", 9, x.about(0, 10));
        say.is("PRINCES by the latest", 3, x.count(2));
    }

    private static void imageState(Sentences say) {
        say.of("Promise 22", "STATE: no SCHOOL.");
        BeatenInstead x = new BeatenInstead();
        say.refused("image()", STATE, x, x::image);
        Made.type(x, "93;0");
        say.refused("image() while it is on THE PAGE only", STATE, x, x::image);
        x.school();
        say.is("image() of it", 0, x.image());
    }

    private static void restoreGoesOn(Sentences say) {
        say.of("Promise 23", "It goes on from the IMAGE: STRIPES of all BOYS.");
        BeatenInstead x = Made.school("93,51;0");
        x.prince(0, 0);
        x.teach(0, 0, false);
        x.image();
        long before = x.digest();
        say.is("restore() with nothing changed", 3, x.restore());
        for (int time = 0; time < 3; time++) {
            x.teach(0, 0, false);
            say.is("STRIPES since", 6, x.stripes(0));
            x.prince(4, 9);
            x.teach(1, 1, true);
            x.hear(1, 1, true);
            say.is("restore() again", 3, x.restore());
            say.is("digest()", before, x.digest());
            say.is("stripes(0)", 3, x.stripes(0));
            say.is("about(1, 0)", UNKNOWN, x.about(1, 0));
        }
        x.order(0, 0);
        Made.type(x, "9");
        x.restore();
        say.is("THE PAGE stays", 1, x.count(6));
        say.is("order() stays done", 1, x.count(8));
        say.is("the SCHOOL stays read", 1, x.count(7));
    }

    private static void restoreState(Sentences say) {
        say.of("Promise 23", "STATE: none was kept, or there is another SCHOOL since.");
        BeatenInstead x = new BeatenInstead();
        say.refused("restore() without a SCHOOL", STATE, x, x::restore);
        x.image();
        say.refused("restore() with a refused image()", STATE, x, x::restore);
        Made.type(x, "93;0");
        x.school();
        say.refused("restore() with none kept", STATE, x, x::restore);
        x.image();
        say.is("restore() with one kept", 0, x.restore());
        Made.type(x, "93;");
        x.school();
        say.is("restore() with a refused school() since", 0, x.restore());
        Made.type(x, "1");
        x.school();
        say.refused("restore() with another SCHOOL since", STATE, x, x::restore);
        Made.type(x, "93;0");
        x.school();
        say.refused("restore() with a SCHOOL like that since", STATE, x, x::restore);
        x.prince(0, 0);
        x.teach(0, 0, false);
        x.image();
        say.is("restore() with one kept of this", 3, x.restore());
    }

    private static void countHowMany(Sentences say) {
        say.of("Promise 24", "How many: 0 LESSONS, 1 LIMIT (0: no SCHOOL), 2 PRINCES, 3 STRIPES of all BOYS,"
                + " 4 LEARNT of all PRINCES, 5 what is HEARD, 6 letters of THE PAGE,"
                + " 7 how often a SCHOOL was read, 8 how often order() was done.");
        BeatenInstead x = new BeatenInstead();
        countsAre(say, "a new object", x, 0, 0, 0, 0, 0, 0, 0, 0, 0);
        Made.type(x, "11,11,11,11,11;9");
        countsAre(say, "on THE PAGE only", x, 0, 0, 0, 0, 0, 0, 16, 0, 0);
        x.school();
        countsAre(say, "read", x, 5, 9, 0, 0, 0, 0, 0, 1, 0);
        for (int prince = 0; prince < 3; prince++) {
            x.prince(0, 0);
            x.teach(prince, 0, false);
            for (int lesson = 0; lesson < 5; lesson++) {
                x.teach(prince, lesson, true);
                x.hear(prince, lesson, true);
                x.order(prince, 0);
            }
        }
        Made.type(x, "11;0 11;0 11;0 11;0");
        countsAre(say, "with most of most", x, 5, 9, 3, 3, 15, 6, 18, 1, 15);
        x.school();
        countsAre(say, "behind a refused school()", x, 5, 9, 3, 3, 15, 6, 18, 1, 15);
        Made.page(x, "95;0");
        x.school();
        countsAre(say, "another SCHOOL", x, 1, 0, 0, 0, 0, 0, 0, 2, 15);
        Made.page(x, "95;0");
        x.school();
        countsAre(say, "the same SCHOOL again", x, 1, 0, 0, 0, 0, 0, 0, 3, 15);
    }

    private static void countsAre(Sentences say, String of, BeatenInstead x, int... want) {
        for (int what = 0; what <= 8; what++) {
            say.is(of + ": count(" + what + ")", want[what], x.count(what));
        }
    }

    private static void countOutside(Sentences say) {
        say.of("Promise 24", "OUTSIDE.");
        BeatenInstead none = new BeatenInstead();
        BeatenInstead x = Made.school("95;0");
        for (int what : Sentences.off(0, 8)) {
            say.refused("count(" + what + ") without a SCHOOL", OUTSIDE, none, () -> none.count(what));
            say.refused("count(" + what + ")", OUTSIDE, x, () -> x.count(what));
        }
    }

    /** The digest's numbers, told by the calls, are summed without a bound; the digest is what a long holds of that. */
    private static BigInteger unwrapped(BeatenInstead x, String page) {
        Sum sum = new Sum();
        for (int boy = 0; boy < 3 && x.count(0) > 0; boy++) {
            sum.add(x.stripes(boy));
        }
        for (int lesson = 0; lesson < x.count(0); lesson++) {
            for (int what = 0; what <= 2; what++) {
                sum.add(x.lesson(lesson, what));
            }
            for (int what : new int[] {0, 1, 10, 11, 12}) {
                sum.add(x.match(lesson, what));
            }
        }
        for (int prince = 0; prince < x.count(2); prince++) {
            for (int what : new int[] {0, 1, 2, 3, 4, 10, 11, 12}) {
                sum.add(x.about(prince, what));
            }
            for (int lesson = 0; lesson < x.count(0); lesson++) {
                sum.add(x.tenths(prince, lesson));
            }
            sum.add(x.fondness(prince));
        }
        for (int place = 0; place < page.length(); place++) {
            sum.add(page.charAt(place));
        }
        for (int what = 0; what <= 8; what++) {
            sum.add(x.count(what));
        }
        return sum.h;
    }

    private static final class Sum {
        private BigInteger h = BigInteger.valueOf(877);

        private void add(int number) {
            h = h.multiply(BigInteger.valueOf(31)).add(BigInteger.valueOf(number));
        }
    }

    private static void digestIs(Sentences say, String of, BeatenInstead x, String page) {
        Made.page(x, page);
        say.is(of, unwrapped(x, page).longValue(), x.digest());
    }

    private static BeatenInstead withMostOfAll() {
        BeatenInstead x = Made.school("95,94,93,92,91;9");
        for (int prince = 0; prince < 3; prince++) {
            x.prince(4 - prince, 9 - prince);
            x.fond(prince, 2 - prince, 9);
            x.teach(prince, prince, false);
            x.teach(prince, 4, true);
            x.hear(prince, 0, true);
            x.hear(prince, 0, false);
            x.order(prince, 0);
        }
        return x;
    }

    private static void digestWraps(Sentences say) {
        say.of("Promise 25", "h is 877, then for each of these numbers, in order, 31 times h, and it"
                + " (as longs, wrapping):");
        BeatenInstead x = new BeatenInstead();
        say.is("877 and nine times 0", 877L * 31 * 31 * 31 * 31 * 31 * 31 * 31 * 31 * 31, x.digest());
        BigInteger most = BigInteger.valueOf(Long.MAX_VALUE);
        String page = "";
        say.isTrue("with nine numbers it does not wrap", unwrapped(x, page).compareTo(most) <= 0);
        for (int letters = 1; letters <= 18; letters++) {
            page = "~";
            while (page.length() < letters) {
                page += "~";
            }
            digestIs(say, "with " + letters + " letters", x, page);
        }
        say.isTrue("with 27 numbers it wraps", unwrapped(x, page).compareTo(most) > 0);
        BeatenInstead y = withMostOfAll();
        digestIs(say, "with most of all", y, "~~~~~~~~~~~~~~~~~~");
        say.isTrue("it wraps more than once", unwrapped(y, page).bitLength() > 300);
    }

    private static void digestOfASchool(Sentences say) {
        say.of("Promise 25", "with a SCHOOL STRIPES of each BOY;");
        BeatenInstead none = new BeatenInstead();
        digestIs(say, "without a SCHOOL", none, "");
        BeatenInstead x = Made.school("93;9");
        digestIs(say, "with one, without STRIPES", x, "");
        x.prince(0, 0);
        for (int boy = 0; boy < 3; boy++) {
            x.give(0, boy);
            x.teach(0, 0, false);
            digestIs(say, "with STRIPES of " + boy, x, "");
        }
    }

    private static void digestOfLessons(Sentences say) {
        say.of("Promise 25", "of each LESSON what lesson() tells for 0 to 2,"
                + " what match() tells for 0, 1 and 10 to 12;");
        for (int lessons = 1; lessons <= 5; lessons++) {
            BeatenInstead x = Made.school("55,44,33,22,11".substring(0, 3 * lessons - 1) + ";9");
            digestIs(say, lessons + " LESSONS, no PRINCES", x, "");
            x.prince(0, 9);
            x.prince(0, 8);
            x.fond(0, 1, 9);
            digestIs(say, lessons + " LESSONS, 2 PRINCES", x, "");
            x.teach(1, lessons - 1, true);
            digestIs(say, lessons + " LESSONS, one LEARNT", x, "");
        }
    }

    private static void digestOfPrinces(Sentences say) {
        say.of("Promise 25", "of each PRINCE what about() tells for 0 to 4 and 10 to 12, TENTHS of each LESSON,"
                + " FONDNESS;");
        for (int kind = 0; kind <= 4; kind++) {
            BeatenInstead x = Made.school("55,44,33;9");
            for (int prince = 0; prince < 3; prince++) {
                x.prince(kind, 3 + prince);
                x.fond(prince, 1, 6 + prince);
                x.give(prince, 2 - prince);
                x.hear(prince, 0, true);
                digestIs(say, prince + 1 + " PRINCES of kind " + kind, x, "");
            }
        }
    }

    private static void digestOfLetters(Sentences say) {
        say.of("Promise 25", "letters of THE PAGE;");
        for (String page : new String[] {"", " ", "~", "~ ", " ~", "93;0", "012345678901234567"}) {
            digestIs(say, "without a SCHOOL: " + page, new BeatenInstead(), page);
            digestIs(say, "with one: " + page, Made.school("93;0"), page);
        }
        BeatenInstead x = new BeatenInstead();
        Made.type(x, "a");
        x.blank();
        digestIs(say, "blank", x, "");
    }

    private static void digestOfCounts(Sentences say) {
        say.of("Promise 25", "what count() tells for 0 to 8.");
        for (int asked : new int[] {3, 4, 19, 20, 21}) {
            BeatenInstead x = withMostOfAll();
            for (int before = 3; before < asked; before++) {
                x.order(0, 0);
            }
            digestIs(say, "order() asked " + asked + " times", x, "");
            say.is("times done", Math.min(asked, 20), x.count(8));
        }
        BeatenInstead x = withMostOfAll();
        Made.page(x, "11;1");
        x.school();
        digestIs(say, "two SCHOOLS read", x, "");
    }
}
