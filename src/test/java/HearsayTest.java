/** Promises 18 to 21: what is heard, and schools by a seed. */
public final class HearsayTest {
    private static final int UNKNOWN = BeatenInstead.UNKNOWN, OUTSIDE = BeatenInstead.OUTSIDE;
    private static final int STATE = BeatenInstead.STATE, FULL = BeatenInstead.FULL;

    private static final Due due = new Due("hearsay");

    public static void main(String[] args) {
        hear();
        hearRefused();
        forget();
        fondness();
        fondnessByKind();
        schools();
        schoolsGoOn();
        schoolsRefused();
        due.end();
    }

    private static void hear() {
        BeatenInstead x = Made.school("51,91;0");
        x.prince(0, 0);
        x.prince(0, 9);
        x.teach(1, 0, true);
        due.is("hear(0, 0, true)", 1, x.hear(0, 0, true));
        due.is("the same again", 2, x.hear(0, 0, true));
        due.is("of another", 3, x.hear(1, 0, false));
        due.is("what can't be just now", 4, x.hear(0, 1, true));
        due.is("heard", 4, x.count(5));
        due.is("5", 5, x.hear(0, 0, true));
        due.is("6", 6, x.hear(0, 0, true));
        due.is("more", FULL, x.hear(0, 0, true));
        due.is("more of another", FULL, x.hear(1, 0, true));
        due.is("UNKNOWN comes ahead of FULL", UNKNOWN, x.hear(2, 0, true));
        due.is("heard", 6, x.count(5));
        due.is("he is as fond as he was", 5, x.about(0, 10));
        due.is("he has learnt nothing by it", 0, x.about(0, 4));
        due.is("there are no stripes by it", 0, x.count(3));
    }

    private static void hearRefused() {
        BeatenInstead x = Made.school("51,91;0");
        due.is("hear(0, 0, true) without princes", UNKNOWN, x.hear(0, 0, true));
        x.prince(0, 0);
        due.is("hear(1, 0, true)", UNKNOWN, x.hear(1, 0, true));
        due.is("hear(-1, 0, true)", UNKNOWN, x.hear(-1, 0, true));
        due.is("hear(0, 2, true)", UNKNOWN, x.hear(0, 2, true));
        due.is("hear(0, -1, true)", UNKNOWN, x.hear(0, -1, true));
        due.is("nothing is heard by these", 0, x.count(5));
    }

    private static void forget() {
        BeatenInstead x = Made.school("51;0");
        x.prince(0, 0);
        due.is("forget() of nothing", 0, x.forget());
        x.hear(0, 0, true);
        x.hear(0, 0, true);
        due.is("fondness(0)", 0x3c0, x.fondness(0));
        due.is("forget()", 2, x.forget());
        due.is("heard", 0, x.count(5));
        due.is("fondness(0) of nothing", 1023, x.fondness(0));
        due.is("it begins anew", 1, x.hear(0, 0, false));
        due.is("fondness(0) of what is heard since", 1023, x.fondness(0));
    }

    /** WIT 3: he can learn what is 5 HARD if fonder than 2, can fail it at any rate. */
    private static void fondness() {
        BeatenInstead x = Made.school("51,11;0");
        due.is("fondness(0) without princes", UNKNOWN, x.fondness(0));
        x.prince(0, 3);
        x.prince(0, 3);
        due.is("nothing is heard", 1023, x.fondness(0));
        x.hear(0, 0, false);
        due.is("he failed", 1023, x.fondness(0));
        x.hear(0, 0, true);
        due.is("and learnt", 0x3f8, x.fondness(0));
        x.hear(0, 1, false);
        due.is("and failed what is easy", 0x0f8, x.fondness(0));
        due.is("nothing is heard of the other", 1023, x.fondness(1));
        x.hear(1, 1, true);
        due.is("something is", 1023, x.fondness(1));
        x.fond(0, 0, 9);
        x.give(0, 2);
        x.teach(0, 0, true);
        due.is("whom he has, and how fond he is, does not count", 0x0f8, x.fondness(0));
        due.is("fondness(2)", UNKNOWN, x.fondness(2));
        due.is("fondness(-1)", UNKNOWN, x.fondness(-1));
        x = Made.school("91,11;0");
        x.prince(0, 1);
        x.hear(0, 0, true);
        due.is("the fondest alone", 0x200, x.fondness(0));
        x.prince(4, 9);
        x.hear(1, 1, false);
        due.is("a high one can't fail it", 0, x.fondness(1));
    }

    private static void fondnessByKind() {
        int[] want = {0x3c0, 0x3c0, 0x00f, 0, 0x3e0};
        for (int kind = 0; kind < 5; kind++) {
            BeatenInstead x = Made.school("51;0");
            x.prince(kind, 0);
            x.hear(0, 0, true);
            due.is("fondness of kind " + kind, want[kind], x.fondness(0));
        }
    }

    /** From SEED 0 the next ones are 12345, 1406932606, 654583775, 1449466924: DRAWS of 0, 8, 8, 7. */
    private static void schools() {
        BeatenInstead x = Made.school("55;9");
        x.prince(0, 5);
        schoolsAre("0 below 5 is learnt, then none is drawn", x, 1, 0, 0, 1, 12345);
        schoolsAre("0 below 5 is learnt, then none is drawn", x, 20, 0, 0, 1, 12345);
        schoolsAre("8, not below 5, is failed", x, 1, 12345, 5, 0, 1406932606);
        schoolsAre("8, not below 6", x, 2, 12345, 10, 0, 654583775);
        schoolsAre("7, not below 4", x, 3, 12345, 15, 0, 1449466924);
        x = Made.school("55;9");
        x.prince(0, 8);
        schoolsAre("8, not below 8", x, 1, 12345, 5, 0, 1406932606);
        schoolsAre("8, below 9", x, 2, 12345, 5, 1, 654583775);
        x = Made.school("11,11;0");
        x.prince(4, 9);
        schoolsAre("what is certain is drawn, too", x, 1, 0, 0, 2, 1406932606);
        x = Made.school("91;0");
        x.prince(0, 0);
        schoolsAre("the greatest seed", x, 1, Integer.MAX_VALUE, 1, 0, 1043980748);
    }

    private static void schoolsAre(String of, BeatenInstead x, int times, int seed, int blows, int learnt, int then) {
        due.is(of + ": blows", blows, x.schools(times, seed, 0));
        due.is(of + ": learnt", learnt, x.schools(times, seed, 1));
        due.is(of + ": seed then", then, x.schools(times, seed, 2));
    }

    private static void schoolsGoOn() {
        BeatenInstead x = Made.school("51,12;1");
        x.prince(0, 5);
        x.prince(0, 0);
        x.give(1, 0);
        schoolsAre("one learns all at once", x, 1, 0, 3, 2, 1449466924);
        schoolsAre("the other fails again", x, 2, 0, 6, 2, 1109335178);
        schoolsAre("and again", x, 3, 0, 9, 2, 1293799192);
        x.teach(1, 1, true);
        x.teach(1, 0, false);
        long before = x.digest();
        schoolsAre("what he learnt before counts, stripes do not", x, 1, 0, 1, 3, 654583775);
        due.is("schools() sets none", before, x.digest());
        x = Made.school("51;1");
        x.prince(0, 0);
        x.prince(0, 8);
        schoolsAre("each his own boy: fonder", x, 2, 12345, 3, 1, 229283573);
        x.give(1, 0);
        schoolsAre("one boy for both: colder", x, 2, 12345, 4, 0, 229283573);
    }

    private static void schoolsRefused() {
        BeatenInstead x = new BeatenInstead();
        due.is("schools() without a school", STATE, x.schools(1, 0, 0));
        x = Made.school("91;0");
        due.is("schools() without princes", STATE, x.schools(1, 0, 0));
        due.is("OUTSIDE comes ahead of STATE", OUTSIDE, x.schools(0, 0, 0));
        x.prince(0, 0);
        due.is("schools(0, 0, 0)", OUTSIDE, x.schools(0, 0, 0));
        due.is("schools(21, 0, 0)", OUTSIDE, x.schools(21, 0, 0));
        due.is("schools(1, -1, 0)", OUTSIDE, x.schools(1, -1, 0));
        due.is("schools(1, 0, -1)", OUTSIDE, x.schools(1, 0, -1));
        due.is("schools(1, 0, 3)", OUTSIDE, x.schools(1, 0, 3));
        due.is("schools(20, 0, 0)", 20, x.schools(20, 0, 0));
    }
}
