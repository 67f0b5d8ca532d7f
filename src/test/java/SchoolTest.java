/** Promises 1 to 7: a new object, and the school. */
public final class SchoolTest {
    private static final int UNKNOWN = BeatenInstead.UNKNOWN, OUTSIDE = BeatenInstead.OUTSIDE;
    private static final int STATE = BeatenInstead.STATE, FULL = BeatenInstead.FULL;

    private static final Due due = new Due("school");

    public static void main(String[] args) {
        newObject();
        letter();
        blank();
        fault();
        faultEverywhere();
        school();
        schoolReadAgain();
        lesson();
        stripes();
        due.end();
    }

    private static void newObject() {
        BeatenInstead x = new BeatenInstead();
        for (int what = 0; what <= 8; what++) {
            due.is("new: count(" + what + ")", 0, x.count(what));
        }
        due.is("new: fault()", 0, x.fault());
        due.is("new: lesson(0, 0)", UNKNOWN, x.lesson(0, 0));
        due.is("new: about(0, 0)", UNKNOWN, x.about(0, 0));
        due.is("new: match(0, 0)", UNKNOWN, x.match(0, 0));
        due.is("new: image()", STATE, x.image());
        due.is("new: restore()", STATE, x.restore());
        due.is("new: schools(1, 0, 0)", STATE, x.schools(1, 0, 0));
        due.is("new: forget()", 0, x.forget());
    }

    private static void letter() {
        BeatenInstead x = new BeatenInstead();
        due.is("letter(31)", OUTSIDE, x.letter(31));
        due.is("letter(127)", OUTSIDE, x.letter(127));
        due.is("letter(-1)", OUTSIDE, x.letter(-1));
        due.is("letter(least)", OUTSIDE, x.letter(Integer.MIN_VALUE));
        due.is("letter(most)", OUTSIDE, x.letter(Integer.MAX_VALUE));
        due.is("refused letters are none", 0, x.count(6));
        for (int i = 1; i <= 18; i++) {
            due.is("letter number " + i, i, x.letter(i % 2 == 0 ? 32 : 126));
        }
        due.is("letter above 18", FULL, x.letter(65));
        due.is("OUTSIDE comes ahead of FULL", OUTSIDE, x.letter(31));
        due.is("count(6) of a full page", 18, x.count(6));
    }

    private static void blank() {
        BeatenInstead x = new BeatenInstead();
        due.is("blank() of an empty page", 0, x.blank());
        Made.type(x, "xyz");
        due.is("blank()", 3, x.blank());
        due.is("count(6) of a blank page", 0, x.count(6));
        due.is("letter after blank()", 1, x.letter(65));
        due.is("blank() again", 1, x.blank());
    }

    private static void fault() {
        faultOf("", 0);
        faultOf("0", 0);
        faultOf("1", 1);
        faultOf("9", 1);
        faultOf(";", 0);
        faultOf("10", 1);
        faultOf("15", 2);
        faultOf("16", 1);
        faultOf("15,", 3);
        faultOf("15;", 3);
        faultOf("15x", 2);
        faultOf("155", 2);
        faultOf("15;0", 4);
        faultOf("15;9", 4);
        faultOf("15;x", 3);
        faultOf("15;;", 3);
        faultOf("15;00", 4);
        faultOf("15;0;", 4);
        faultOf("15;0x15", 4);
        faultOf("15,,", 3);
        faultOf("15,0", 3);
        faultOf("15,1;", 4);
        faultOf("x15;0", 0);
        faultOf("11,22,33,44,55", 14);
        faultOf("11,22,33,44,55,", 14);
        faultOf("11,22,33,44,55;", 15);
        faultOf("11,22,33,44,55;0", 16);
        faultOf("11,22,33,44,55;012", 16);
        faultOf("11,22,33,44,5,", 13);
    }

    private static void faultOf(String page, int want) {
        BeatenInstead x = new BeatenInstead();
        Made.type(x, page);
        due.is("fault() of " + page, want, x.fault());
        due.is("letters of " + page + " after fault()", page.length(), x.count(6));
    }

    /** At each place of the longest school, each letter is a fault or is none. */
    private static void faultEverywhere() {
        String longest = "11,22,33,44,55;0";
        for (int place = 0; place < longest.length(); place++) {
            for (char code = 32; code <= 126; code++) {
                BeatenInstead x = new BeatenInstead();
                Made.type(x, longest.substring(0, place));
                x.letter(code);
                boolean fits = allowedAt(place).indexOf(code) >= 0;
                due.is("fault() of letter " + code + " at " + place, fits ? place + 1 : place, x.fault());
            }
        }
    }

    private static String allowedAt(int place) {
        if (place == 15) {
            return "0123456789";
        }
        if (place == 14) {
            return ";";
        }
        return new String[] {"123456789", "12345", ",;"}[place % 3];
    }

    private static void school() {
        for (String page : new String[] {"", "1", "15", "15;", "15,", "15;00", "15,11", "05;0", "16;0", "15:0",
                "11,22,33,44,55,11;0", "11,22,33,44,55;"}) {
            BeatenInstead x = new BeatenInstead();
            Made.type(x, page);
            int had = x.count(6);
            due.is("school() of " + page, STATE, x.school());
            due.is("letters after school() of " + page, had, x.count(6));
            due.is("read after school() of " + page, 0, x.count(7));
            due.is("lessons after school() of " + page, 0, x.count(0));
        }
        schoolOf("15;0", 1, 0);
        schoolOf("11,22;9", 2, 9);
        schoolOf("11,22,33;4", 3, 4);
        schoolOf("11,22,33,44;5", 4, 5);
        schoolOf("11,22,33,44,95;6", 5, 6);
    }

    private static void schoolOf(String page, int lessons, int limit) {
        BeatenInstead x = new BeatenInstead();
        Made.type(x, page);
        due.is("school() of " + page, lessons, x.school());
        due.is("lessons of " + page, lessons, x.count(0));
        due.is("limit of " + page, limit, x.count(1));
        due.is("letters after " + page, 0, x.count(6));
        due.is("times read", 1, x.count(7));
        for (int boy = 0; boy < 3; boy++) {
            due.is("stripes at first", 0, x.stripes(boy));
        }
    }

    private static void schoolReadAgain() {
        BeatenInstead x = Made.school("93,41;2");
        x.prince(0, 0);
        x.prince(4, 9);
        x.teach(0, 0, false);
        x.teach(1, 1, true);
        x.teach(1, 0, true);
        x.hear(0, 0, true);
        x.order(0, 0);
        x.image();
        Made.type(x, "93,41,1");
        long before = x.digest();
        due.is("school() with a fault", STATE, x.school());
        due.is("nothing is changed by it", before, x.digest());
        due.is("the image is still there", 3, x.restore());
        x.blank();
        Made.type(x, "72;1");
        due.is("another school()", 1, x.school());
        int[] want = {1, 1, 0, 0, 0, 0, 0, 2, 1};
        for (int what = 0; what <= 8; what++) {
            due.is("count(" + what + ") of another school", want[what], x.count(what));
        }
        due.is("its princes are gone", UNKNOWN, x.about(0, 0));
        due.is("the image is not of this school", STATE, x.restore());
        due.is("its lesson", 7, x.lesson(0, 0));
        due.is("lesson of the school before", UNKNOWN, x.lesson(1, 0));
        due.is("a prince of another school", 0, x.prince(2, 3));
        due.is("as fond as at first", 5, x.about(0, 10));
        x.prince(0, 0);
        due.is("nothing learnt", 0, x.about(1, 4));
        due.is("nothing heard of him", 1023, x.fondness(0));
    }

    private static void lesson() {
        BeatenInstead x = new BeatenInstead();
        due.is("lesson(0, 0) without a school", UNKNOWN, x.lesson(0, 0));
        due.is("lesson(0, 9) without a school", UNKNOWN, x.lesson(0, 9));
        x = Made.school("12,94,55;0");
        int[][] want = {{1, 2}, {9, 4}, {5, 5}};
        for (int lesson = 0; lesson < 3; lesson++) {
            due.is("hard of " + lesson, want[lesson][0], x.lesson(lesson, 0));
            due.is("blows of " + lesson, want[lesson][1], x.lesson(lesson, 1));
            due.is("who learnt " + lesson, 0, x.lesson(lesson, 2));
        }
        x.prince(0, 9);
        x.prince(0, 9);
        x.prince(0, 9);
        x.teach(0, 0, true);
        x.teach(2, 0, true);
        x.teach(1, 2, true);
        due.is("who learnt 0", 5, x.lesson(0, 2));
        due.is("who learnt 1", 0, x.lesson(1, 2));
        due.is("who learnt 2", 2, x.lesson(2, 2));
        due.is("lesson(-1, 0)", UNKNOWN, x.lesson(-1, 0));
        due.is("lesson(3, 0)", UNKNOWN, x.lesson(3, 0));
        due.is("UNKNOWN comes ahead of OUTSIDE", UNKNOWN, x.lesson(3, 3));
        due.is("lesson(0, 3)", OUTSIDE, x.lesson(0, 3));
        due.is("lesson(0, -1)", OUTSIDE, x.lesson(0, -1));
    }

    private static void stripes() {
        BeatenInstead x = new BeatenInstead();
        due.is("stripes(0) without a school", UNKNOWN, x.stripes(0));
        x = Made.school("93;0");
        x.prince(0, 0);
        x.prince(0, 0);
        x.teach(1, 0, false);
        x.give(0, 2);
        x.teach(0, 0, false);
        x.teach(0, 0, false);
        due.is("stripes(0)", 0, x.stripes(0));
        due.is("stripes(1)", 3, x.stripes(1));
        due.is("stripes(2)", 6, x.stripes(2));
        due.is("stripes(3)", UNKNOWN, x.stripes(3));
        due.is("stripes(-1)", UNKNOWN, x.stripes(-1));
    }
}
