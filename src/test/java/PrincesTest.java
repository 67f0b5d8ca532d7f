/** Promises 8 to 14: princes. */
public final class PrincesTest {
    private static final int NONE = BeatenInstead.NONE, UNKNOWN = BeatenInstead.UNKNOWN;
    private static final int OUTSIDE = BeatenInstead.OUTSIDE, STATE = BeatenInstead.STATE, FULL = BeatenInstead.FULL;

    private static final Due due = new Due("princes");

    /** What one feels, by kind, as fond as 0 to 9. */
    private static final int[][] FEELS = {
        {0, 1, 2, 3, 4, 5, 6, 7, 8, 9},
        {0, 0, 0, 0, 0, 5, 6, 7, 8, 9},
        {9, 8, 7, 6, 5, 4, 3, 2, 1, 0},
        {0, 0, 1, 1, 2, 2, 3, 3, 4, 4},
        {2, 2, 2, 2, 2, 7, 8, 9, 10, 11}};

    public static void main(String[] args) {
        prince();
        about();
        feels();
        as();
        give();
        fond();
        tenths();
        tenthsOfAll();
        teach();
        teachWhatCanBe();
        fonderOrColder();
        due.end();
    }

    private static void prince() {
        BeatenInstead x = new BeatenInstead();
        due.is("prince(0, 0) without a school", STATE, x.prince(0, 0));
        due.is("OUTSIDE comes ahead of STATE", OUTSIDE, x.prince(5, 0));
        x = Made.school("11;0");
        due.is("prince(-1, 0)", OUTSIDE, x.prince(-1, 0));
        due.is("prince(5, 0)", OUTSIDE, x.prince(5, 0));
        due.is("prince(0, -1)", OUTSIDE, x.prince(0, -1));
        due.is("prince(0, 10)", OUTSIDE, x.prince(0, 10));
        due.is("refused ones are none", 0, x.count(2));
        due.is("prince(4, 9)", 0, x.prince(4, 9));
        due.is("prince(0, 0)", 1, x.prince(0, 0));
        due.is("prince(3, 7)", 2, x.prince(3, 7));
        due.is("a fourth prince", FULL, x.prince(0, 0));
        due.is("OUTSIDE comes ahead of FULL", OUTSIDE, x.prince(0, 10));
        due.is("princes", 3, x.count(2));
    }

    private static void about() {
        BeatenInstead x = Made.school("11,21;0");
        due.is("about(0, 0) without princes", UNKNOWN, x.about(0, 0));
        x.prince(3, 8);
        x.prince(1, 0);
        due.is("kind", 3, x.about(0, 0));
        due.is("wit", 8, x.about(0, 1));
        due.is("boy of 0", 0, x.about(0, 2));
        due.is("boy of 1", 1, x.about(1, 2));
        due.is("feels", 2, x.about(0, 3));
        due.is("learnt at first", 0, x.about(0, 4));
        for (int boy = 0; boy < 3; boy++) {
            due.is("fond at first", 5, x.about(0, 10 + boy));
            x.fond(0, boy, 7 + boy);
        }
        for (int boy = 0; boy < 3; boy++) {
            due.is("fond of " + boy, 7 + boy, x.about(0, 10 + boy));
            due.is("another's fondness of " + boy, 5, x.about(1, 10 + boy));
        }
        x.teach(0, 1, true);
        due.is("learnt", 2, x.about(0, 4));
        due.is("learnt by another", 0, x.about(1, 4));
        due.is("about(2, 0)", UNKNOWN, x.about(2, 0));
        due.is("about(-1, 0)", UNKNOWN, x.about(-1, 0));
        due.is("UNKNOWN comes ahead of OUTSIDE", UNKNOWN, x.about(2, 5));
        for (int what : new int[] {-1, 5, 9, 13, Integer.MIN_VALUE, Integer.MAX_VALUE}) {
            due.is("about(0, " + what + ")", OUTSIDE, x.about(0, what));
        }
    }

    private static void feels() {
        for (int kind = 0; kind < 5; kind++) {
            BeatenInstead x = Made.school("11;0");
            x.prince(kind, 1);
            for (int fond = 0; fond <= 9; fond++) {
                x.fond(0, 0, fond);
                due.is("kind " + kind + " feels, as fond as " + fond, FEELS[kind][fond], x.about(0, 3));
            }
        }
    }

    private static void as() {
        String[] isOf = {"0", "01", "02", "03", "014"};
        for (int kind = 0; kind < 5; kind++) {
            BeatenInstead x = Made.school("11;0");
            x.prince(0, 0);
            x.prince(kind, 0);
            for (int as = 0; as < 5; as++) {
                int want = isOf[kind].indexOf('0' + as) >= 0 ? 1 : NONE;
                due.is("kind " + kind + " as " + as, want, x.as(1, as));
            }
        }
        BeatenInstead x = Made.school("11;0");
        due.is("as(0, 0) without princes", UNKNOWN, x.as(0, 0));
        x.prince(0, 0);
        due.is("as(0, 5)", OUTSIDE, x.as(0, 5));
        due.is("as(0, -1)", OUTSIDE, x.as(0, -1));
        due.is("as(-1, 0)", UNKNOWN, x.as(-1, 0));
        due.is("UNKNOWN comes ahead of OUTSIDE", UNKNOWN, x.as(1, 5));
    }

    private static void give() {
        BeatenInstead x = Made.school("11;0");
        x.prince(0, 0);
        x.prince(0, 0);
        x.fond(0, 2, 9);
        due.is("give(0, 2)", 0, x.give(0, 2));
        due.is("his boy", 2, x.about(0, 2));
        due.is("what he feels for him", 9, x.about(0, 3));
        due.is("two have one", 1, x.give(1, 2));
        due.is("the same again", 2, x.give(1, 2));
        due.is("the other keeps him", 2, x.about(0, 2));
        due.is("give(0, 3)", UNKNOWN, x.give(0, 3));
        due.is("give(0, -1)", UNKNOWN, x.give(0, -1));
        due.is("give(2, 0)", UNKNOWN, x.give(2, 0));
        due.is("give(-1, 0)", UNKNOWN, x.give(-1, 0));
        due.is("nothing is changed by these", 2, x.about(0, 2));
    }

    private static void fond() {
        BeatenInstead x = Made.school("11;0");
        x.prince(0, 0);
        due.is("fond(0, 1, 0)", 5, x.fond(0, 1, 0));
        due.is("fond(0, 1, 9)", 0, x.fond(0, 1, 9));
        due.is("fond(0, 1, 10)", OUTSIDE, x.fond(0, 1, 10));
        due.is("fond(0, 1, -1)", OUTSIDE, x.fond(0, 1, -1));
        due.is("nothing is changed by these", 9, x.about(0, 11));
        due.is("he is as fond of another", 5, x.about(0, 10));
        due.is("fond(0, 3, 1)", UNKNOWN, x.fond(0, 3, 1));
        due.is("fond(0, -1, 1)", UNKNOWN, x.fond(0, -1, 1));
        due.is("fond(1, 0, 1)", UNKNOWN, x.fond(1, 0, 1));
        due.is("fond(-1, 0, 1)", UNKNOWN, x.fond(-1, 0, 1));
        due.is("UNKNOWN comes ahead of OUTSIDE", UNKNOWN, x.fond(0, 3, 10));
    }

    private static void tenths() {
        BeatenInstead x = Made.school("11,51,91;0");
        due.is("tenths(0, 0) without princes", UNKNOWN, x.tenths(0, 0));
        x.prince(0, 2);
        due.is("tenths(0, 0)", 6, x.tenths(0, 0));
        due.is("tenths(0, 1)", 2, x.tenths(0, 1));
        due.is("0 at least", 0, x.tenths(0, 2));
        x.prince(4, 9);
        x.fond(1, 1, 9);
        due.is("10 at most", 10, x.tenths(1, 0));
        due.is("11 and 9, less 9, is too much", 10, x.tenths(1, 2));
        x.give(0, 1);
        x.fond(0, 1, 8);
        due.is("of the boy that he has now", 9, x.tenths(0, 0));
        x.teach(0, 0, true);
        due.is("also of one that he has learnt", 9, x.tenths(0, 0));
        due.is("tenths(0, 3)", UNKNOWN, x.tenths(0, 3));
        due.is("tenths(0, -1)", UNKNOWN, x.tenths(0, -1));
        due.is("tenths(2, 0)", UNKNOWN, x.tenths(2, 0));
        due.is("tenths(-1, 0)", UNKNOWN, x.tenths(-1, 0));
    }

    private static void tenthsOfAll() {
        for (int kind = 0; kind < 5; kind++) {
            for (int wit = 0; wit <= 9; wit++) {
                BeatenInstead x = Made.school("11,31,51,71,91;0");
                x.prince(kind, wit);
                for (int fond = 0; fond <= 9; fond++) {
                    x.fond(0, 0, fond);
                    for (int lesson = 0; lesson < 5; lesson++) {
                        int want = wit + FEELS[kind][fond] - (1 + 2 * lesson);
                        want = want < 0 ? 0 : want > 10 ? 10 : want;
                        due.is("tenths of kind " + kind + ", wit " + wit + ", fond " + fond, want, x.tenths(0, lesson));
                    }
                }
            }
        }
    }

    private static void teach() {
        BeatenInstead x = Made.school("52,93;4");
        due.is("teach(0, 0, true) without princes", UNKNOWN, x.teach(0, 0, true));
        x.prince(0, 5);
        x.prince(0, 5);
        due.is("he fails", 2, x.teach(0, 0, false));
        due.is("he fails again", 4, x.teach(0, 0, false));
        due.is("he learns", 4, x.teach(0, 0, true));
        due.is("he has learnt it", 1, x.about(0, 4));
        due.is("learning leaves him as fond", 7, x.about(0, 10));
        due.is("learnt, he can't learn it", STATE, x.teach(0, 0, true));
        due.is("learnt, he can't fail it", STATE, x.teach(0, 0, false));
        due.is("another one can", 2, x.teach(1, 0, false));
        due.is("the other boy has his own stripes", 4, x.stripes(0));
        x.give(0, 1);
        due.is("what his boy has from others counts", 5, x.teach(0, 1, false));
        due.is("the other is as fond of that boy as he was", 6, x.about(1, 11));
        due.is("he is colder", 3, x.about(0, 11));
        due.is("teach(0, 2, true)", UNKNOWN, x.teach(0, 2, true));
        due.is("teach(0, -1, true)", UNKNOWN, x.teach(0, -1, true));
        due.is("teach(2, 0, true)", UNKNOWN, x.teach(2, 0, true));
        due.is("teach(-1, 0, true)", UNKNOWN, x.teach(-1, 0, true));
    }

    private static void teachWhatCanBe() {
        for (int wit = 0; wit <= 9; wit++) {
            for (int fond = 0; fond <= 9; fond++) {
                int tenths = Math.max(0, Math.min(10, wit + fond - 5));
                BeatenInstead x = Made.school("51;9");
                x.prince(0, wit);
                x.fond(0, 0, fond);
                long before = x.digest();
                int fails = x.teach(0, 0, false);
                due.is("failing by " + tenths, tenths < 10 ? 1 : STATE, fails);
                due.isTrue("refused, it changes nothing", fails != STATE || x.digest() == before);
                x = Made.school("51;9");
                x.prince(0, wit);
                x.fond(0, 0, fond);
                int learns = x.teach(0, 0, true);
                due.is("learning by " + tenths, tenths > 0 ? 0 : STATE, learns);
                due.is("learnt by " + tenths, tenths > 0 ? 1 : 0, x.about(0, 4));
            }
        }
    }

    private static void fonderOrColder() {
        for (int fond = 0; fond <= 9; fond++) {
            BeatenInstead x = Made.school("93;3");
            x.prince(0, 0);
            x.fond(0, 0, fond);
            x.teach(0, 0, false);
            due.is("fonder, at the limit", Math.min(9, fond + 1), x.about(0, 10));
            x.fond(0, 0, fond);
            x.teach(0, 0, false);
            due.is("colder, above the limit", Math.max(0, fond - 2), x.about(0, 10));
            due.is("as fond of the others", 5, x.about(0, 11));
        }
    }
}
