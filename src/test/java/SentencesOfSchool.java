/** Promises 1 to 7, sentence by sentence. */
final class SentencesOfSchool {
    private static final int UNKNOWN = BeatenInstead.UNKNOWN, OUTSIDE = BeatenInstead.OUTSIDE;
    private static final int STATE = BeatenInstead.STATE, FULL = BeatenInstead.FULL;
    private static final String LONGEST = "11,22,33,44,95;0";

    private SentencesOfSchool() {
    }

    static void ask(Sentences say) {
        noSchool(say);
        aLetterComes(say);
        letterOutside(say);
        letterFull(say);
        blank(say);
        faultPlace(say);
        noFault(say);
        schoolReadsThePage(say);
        anotherSchoolIsGone(say);
        pageEmptyThen(say);
        schoolState(say);
        ofALesson(say);
        lessonUnknown(say);
        lessonOutside(say);
        stripesOfABoy(say);
        stripesUnknown(say);
    }

    private static void noSchool(Sentences say) {
        say.of("Promise 1", "No SCHOOL.");
        BeatenInstead x = new BeatenInstead();
        for (int what = 0; what <= 8; what++) {
            say.is("count(" + what + ")", 0, x.count(what));
        }
        say.is("fault()", 0, x.fault());
        say.is("blank()", 0, x.blank());
        say.is("forget()", 0, x.forget());
        say.refused("school()", STATE, x, x::school);
        say.refused("prince(0, 0)", STATE, x, () -> x.prince(0, 0));
        say.refused("schools(1, 0, 0)", STATE, x, () -> x.schools(1, 0, 0));
        say.refused("image()", STATE, x, x::image);
        say.refused("restore()", STATE, x, x::restore);
        say.refused("lesson(0, 0)", UNKNOWN, x, () -> x.lesson(0, 0));
        say.refused("stripes(0)", UNKNOWN, x, () -> x.stripes(0));
        say.refused("about(0, 0)", UNKNOWN, x, () -> x.about(0, 0));
        say.refused("as(0, 0)", UNKNOWN, x, () -> x.as(0, 0));
        say.refused("give(0, 0)", UNKNOWN, x, () -> x.give(0, 0));
        say.refused("fond(0, 0, 0)", UNKNOWN, x, () -> x.fond(0, 0, 0));
        say.refused("tenths(0, 0)", UNKNOWN, x, () -> x.tenths(0, 0));
        say.refused("teach(0, 0, true)", UNKNOWN, x, () -> x.teach(0, 0, true));
        say.refused("order(0, 0)", UNKNOWN, x, () -> x.order(0, 0));
        say.refused("match(0, 0)", UNKNOWN, x, () -> x.match(0, 0));
        say.refused("faults(0, 0, 0)", UNKNOWN, x, () -> x.faults(0, 0, 0));
        say.refused("hear(0, 0, true)", UNKNOWN, x, () -> x.hear(0, 0, true));
        say.refused("fondness(0)", UNKNOWN, x, () -> x.fondness(0));
    }

    private static void aLetterComes(Sentences say) {
        say.of("Promise 2", "A letter comes behind THE PAGE, told by its code: how many THE PAGE has.");
        BeatenInstead x = new BeatenInstead();
        for (int i = 1; i <= 4; i++) {
            say.is("letter " + i, i, x.letter("15;0".charAt(i - 1)));
        }
        say.is("school() of what came", 1, x.school());
        say.is("the first letter since", 1, x.letter('1'));
    }

    private static void letterOutside(Sentences say) {
        say.of("Promise 2", "OUTSIDE: code (32 to 126)");
        BeatenInstead x = new BeatenInstead();
        for (int code : Sentences.off(32, 126)) {
            say.refused("letter(" + code + ")", OUTSIDE, x, () -> x.letter(code));
        }
        say.refused("a code of a letter and 256 more", OUTSIDE, x, () -> x.letter(256 + 65));
        say.is("letter(32)", 1, x.letter(32));
        say.is("letter(126)", 2, x.letter(126));
    }

    private static void letterFull(Sentences say) {
        say.of("Promise 2", "FULL: above 18.");
        BeatenInstead x = new BeatenInstead();
        Made.type(x, "12345678901234567");
        say.is("the 18th letter", 18, x.letter('8'));
        say.refused("the 19th letter", FULL, x, () -> x.letter('9'));
        say.refused("the 19th, with a wrong code", OUTSIDE, x, () -> x.letter(127));
        say.is("blank() of a full page", 18, x.blank());
        say.is("letter() then", 1, x.letter('1'));
    }

    private static void blank(Sentences say) {
        say.of("Promise 3", "THE PAGE is empty: how many letters it had.");
        BeatenInstead x = new BeatenInstead();
        say.is("blank() of none", 0, x.blank());
        x.letter('1');
        say.is("blank() of one", 1, x.blank());
        say.is("count(6) then", 0, x.count(6));
        say.is("fault() then", 0, x.fault());
        say.is("blank() again", 0, x.blank());
        Made.type(x, "15;");
        x.blank();
        x.letter('9');
        say.refused("school() when the digit alone is left", STATE, x, x::school);
        BeatenInstead y = Made.school("15;3");
        y.blank();
        say.is("THE SCHOOL stays", 1, y.count(0));
    }

    private static void faultPlace(Sentences say) {
        say.of("Promise 4", "The place (from 0) of the first letter of THE PAGE that no SCHOOL has there,"
                + " behind those ahead of it");
        String[] pages = {"0", "x", ";", " ", "10", "16", "1,", "155", "15 ", "15,0", "15,;", "15;x", "15;;", "15;,",
            "15;00", "15;0,11;0", "00", "15x0", "11,22,33,44,95,", "11,22,33,44,95,11", "11,22,33,44,95;00",
            "11,22,33,44,95;0~~", "11;1;1"};
        int[] want = {0, 0, 0, 0, 1, 1, 1, 2, 2, 3, 3, 3, 3, 3, 4, 4, 0, 2, 14, 14, 16, 16, 4};
        for (int i = 0; i < pages.length; i++) {
            BeatenInstead x = new BeatenInstead();
            Made.type(x, pages[i]);
            say.is("fault() of " + pages[i], want[i], x.fault());
            say.is("its letters, as before", pages[i].length(), x.count(6));
        }
        limitsOfDigits(say);
    }

    /** Each digit of each school of one to five LESSONS: the letters that may stand there, and those next to them. */
    private static void limitsOfDigits(Sentences say) {
        for (int end = 2; end <= 14; end += 3) {
            for (int place = 0; place <= end + 1; place++) {
                String ahead = place <= end ? LONGEST.substring(0, place) : LONGEST.substring(0, end) + ";";
                boolean isMark = place % 3 == 2;
                char least = isMark ? ';' : place > end ? '0' : '1';
                char most = isMark ? ';' : place % 3 == 1 ? '5' : '9';
                for (int code = least - 1; code <= most + 1; code++) {
                    BeatenInstead x = new BeatenInstead();
                    Made.type(x, ahead);
                    x.letter(code);
                    boolean fits = code >= least && code <= most;
                    say.is("fault() of " + ahead + (char) code, fits ? place + 1 : place, x.fault());
                }
            }
        }
    }

    private static void noFault(Sentences say) {
        say.of("Promise 4", "how many letters it has, if there is none.");
        for (int length = 0; length <= LONGEST.length(); length++) {
            BeatenInstead x = new BeatenInstead();
            Made.type(x, LONGEST.substring(0, length));
            say.is("fault() of the first " + length + " letters of " + LONGEST, length, x.fault());
        }
        BeatenInstead x = Made.school("15;0");
        say.is("fault() of the page that a school leaves", 0, x.fault());
    }

    private static void schoolReadsThePage(Sentences say) {
        say.of("Promise 5", "THE PAGE is read as THE SCHOOL");
        String[] pages = {"11;0", "95;9", "11,95;5", "55,11,95;1", "11,22,33,44;9", LONGEST};
        int[] lessons = {1, 1, 2, 3, 4, 5};
        for (int i = 0; i < pages.length; i++) {
            BeatenInstead x = new BeatenInstead();
            Made.type(x, pages[i]);
            say.is("school() of " + pages[i], lessons[i], x.school());
            say.is("LESSONS", lessons[i], x.count(0));
            say.is("LIMIT", pages[i].charAt(pages[i].length() - 1) - '0', x.count(1));
            for (int lesson = 0; lesson < lessons[i]; lesson++) {
                say.is("HARD", pages[i].charAt(3 * lesson) - '0', x.lesson(lesson, 0));
                say.is("BLOWS", pages[i].charAt(3 * lesson + 1) - '0', x.lesson(lesson, 1));
            }
        }
    }

    private static void anotherSchoolIsGone(Sentences say) {
        say.of("Promise 5", "(another one is gone, with PRINCES, STRIPES, HEARD): how many LESSONS");
        BeatenInstead x = Made.school(LONGEST);
        x.prince(0, 0);
        x.prince(4, 0);
        x.prince(3, 0);
        for (int prince = 0; prince < 3; prince++) {
            x.teach(prince, 0, true);
            x.fond(prince, prince, 3);
            x.teach(prince, 4, false);
            x.hear(prince, 4, true);
            x.hear(prince, 4, true);
        }
        x.give(2, 0);
        say.is("STRIPES ahead of it", 15, x.count(3));
        say.is("who LEARNT, ahead of it", 7, x.lesson(0, 2));
        Made.type(x, "93;7");
        say.is("school()", 1, x.school());
        say.is("PRINCES", 0, x.count(2));
        for (int prince = 0; prince < 3; prince++) {
            say.is("about(" + prince + ", 0)", UNKNOWN, x.about(prince, 0));
        }
        say.is("LESSONS", 1, x.count(0));
        say.is("lesson(1, 0)", UNKNOWN, x.lesson(1, 0));
        say.is("who LEARNT", 0, x.lesson(0, 2));
        say.is("LEARNT of all", 0, x.count(4));
        for (int boy = 0; boy < 3; boy++) {
            say.is("STRIPES of " + boy, 0, x.stripes(boy));
        }
        say.is("HEARD", 0, x.count(5));
        for (int prince = 0; prince < 3; prince++) {
            say.is("there is room for a PRINCE", prince, x.prince(0, 9));
            say.is("his BOY", prince, x.about(prince, 2));
            say.is("as FOND as at first", 5, x.about(prince, 10 + prince));
            say.is("what he has LEARNT", 0, x.about(prince, 4));
            say.is("FONDNESS of him", 1023, x.fondness(prince));
            say.is("there is room for what is HEARD", prince + 1, x.hear(prince, 0, true));
        }
    }

    private static void pageEmptyThen(Sentences say) {
        say.of("Promise 5", "THE PAGE is empty then.");
        BeatenInstead x = Made.school(LONGEST);
        say.is("count(6)", 0, x.count(6));
        say.refused("school() of it", STATE, x, x::school);
        say.is("blank()", 0, x.blank());
        say.is("letter()", 1, x.letter('1'));
    }

    private static void schoolState(Sentences say) {
        say.of("Promise 5", "STATE: it is none.");
        for (int length = 0; length < LONGEST.length(); length++) {
            isNone(say, LONGEST.substring(0, length));
        }
        String[] pages = {";0", "15;", "15;00", "15;0;", "15;0,", "05;0", "10;0", "16;0", "15,;0", "15:0", "15;a",
            "15;/", "15;:", " 15;0", "15;0 ", "15,11", LONGEST + "0", LONGEST + "00", "11,22,33,44,95,1;0", "15;0;0"};
        for (String page : pages) {
            isNone(say, page);
        }
    }

    private static void isNone(Sentences say, String page) {
        BeatenInstead x = Made.school("93,41;2");
        x.prince(0, 0);
        x.teach(0, 0, false);
        x.hear(0, 1, true);
        x.image();
        Made.type(x, page);
        say.refused("school() of " + page, STATE, x, x::school);
        say.is("letters", page.length(), x.count(6));
        say.is("THE SCHOOL stays", 2, x.count(0));
        say.is("the IMAGE stays", 3, x.restore());
    }

    private static void ofALesson(Sentences say) {
        say.of("Promise 6", "Of a LESSON: what = 0 HARD, 1 BLOWS, 2 which PRINCES have LEARNT it, as bits.");
        BeatenInstead x = Made.school(LONGEST);
        int[] hard = {1, 2, 3, 4, 9};
        for (int lesson = 0; lesson < 5; lesson++) {
            say.is("HARD", hard[lesson], x.lesson(lesson, 0));
            say.is("BLOWS", lesson + 1, x.lesson(lesson, 1));
            say.is("nobody is there", 0, x.lesson(lesson, 2));
        }
        int[] bits = {0, 1, 3, 7};
        for (int prince = 0; prince < 3; prince++) {
            x.prince(4, 9);
            say.is("another has not LEARNT it", bits[prince], x.lesson(4, 2));
            x.teach(prince, 4, true);
            say.is("all have LEARNT it", bits[prince + 1], x.lesson(4, 2));
            say.is("none has LEARNT that", 0, x.lesson(0, 2));
        }
    }

    private static void lessonUnknown(Sentences say) {
        say.of("Promise 6", "UNKNOWN;");
        for (int lessons = 1; lessons <= 5; lessons++) {
            String page = LONGEST.substring(0, 3 * lessons - 1) + ";0";
            BeatenInstead x = Made.school(page);
            for (int lesson : Sentences.off(0, lessons - 1)) {
                say.refused("lesson(" + lesson + ", 0) of " + page, UNKNOWN, x, () -> x.lesson(lesson, 0));
                say.refused("lesson(" + lesson + ", 3) of " + page, UNKNOWN, x, () -> x.lesson(lesson, 3));
            }
            say.is("the last one", lessons, x.lesson(lessons - 1, 1));
        }
    }

    private static void lessonOutside(Sentences say) {
        say.of("Promise 6", "OUTSIDE.");
        BeatenInstead x = Made.school(LONGEST);
        for (int what : Sentences.off(0, 2)) {
            say.refused("lesson(0, " + what + ")", OUTSIDE, x, () -> x.lesson(0, what));
            say.refused("lesson(4, " + what + ")", OUTSIDE, x, () -> x.lesson(4, what));
        }
    }

    private static void stripesOfABoy(Sentences say) {
        say.of("Promise 7", "STRIPES of a BOY.");
        BeatenInstead x = Made.school("95;9");
        x.prince(0, 0);
        for (int boy = 0; boy < 3; boy++) {
            say.is("none", 0, x.stripes(boy));
            x.give(0, boy);
            x.teach(0, 0, false);
            say.is("of one failing", 5, x.stripes(boy));
            x.teach(0, 0, false);
            say.is("of two", 10, x.stripes(boy));
        }
    }

    private static void stripesUnknown(Sentences say) {
        say.of("Promise 7", "UNKNOWN (also without a SCHOOL).");
        BeatenInstead x = new BeatenInstead();
        for (int boy = 0; boy < 3; boy++) {
            int of = boy;
            say.refused("stripes(" + boy + ") without a SCHOOL", UNKNOWN, x, () -> x.stripes(of));
        }
        BeatenInstead y = Made.school("95;9");
        for (int boy : Sentences.off(0, 2)) {
            say.refused("stripes(" + boy + ")", UNKNOWN, y, () -> y.stripes(boy));
        }
        say.is("stripes(0)", 0, y.stripes(0));
        say.is("stripes(2)", 0, y.stripes(2));
    }
}
