/** Promises 15 to 17: what would be. */
public final class ForesightTest {
    private static final int NONE = BeatenInstead.NONE, UNKNOWN = BeatenInstead.UNKNOWN;
    private static final int OUTSIDE = BeatenInstead.OUTSIDE, STATE = BeatenInstead.STATE;

    private static final Due due = new Due("foresight");

    public static void main(String[] args) {
        order();
        orderGoesOnFromNow();
        orderOfLikeOnes();
        orderOfNone();
        orderRefused();
        orderTwentyTimes();
        match();
        matchOfLikeOnes();
        matchOfNone();
        matchRefused();
        faults();
        faultsGoOn();
        faultsOfWhatCanBe();
        faultsRefused();
        due.end();
    }

    /** Answers of order() from 0, 1, and 10 on. */
    private static void orderIs(String of, BeatenInstead x, int prince, long above, long below, int... lessons) {
        due.is(of + ": mean above", above, x.order(prince, 0));
        due.is(of + ": mean below", below, x.order(prince, 1));
        for (int place = 0; place < 5; place++) {
            int want = place < lessons.length ? lessons[place] : NONE;
            due.is(of + ": lesson at " + place, want, x.order(prince, 10 + place));
        }
    }

    /** With WIT 5: 5 in 10 that lesson 1 is learnt, 1 in 10 that lesson 0 is. */
    private static void order() {
        BeatenInstead x = Made.school("93,51;4");
        x.prince(0, 5);
        orderIs("fonder at all times", x, 0, 61, 20, 1, 0);
        x = Made.school("93,51;2");
        x.prince(0, 5);
        orderIs("colder after lesson 0", x, 0, 61, 20, 1, 0);
        x = Made.school("93,51;0");
        x.prince(0, 5);
        orderIs("colder at all times", x, 0, 67, 20, 1, 0);
        x = Made.school("51;0");
        x.prince(0, 5);
        orderIs("one lesson", x, 0, 1, 2, 0);
        x = Made.school("51,11;0");
        x.prince(0, 6);
        orderIs("what is learnt for certain, then what may fail", x, 0, 2, 5, 1, 0);
    }

    private static void orderGoesOnFromNow() {
        BeatenInstead x = Made.school("51,93,51;4");
        x.prince(0, 5);
        x.prince(0, 0);
        x.teach(0, 2, true);
        long before = x.digest();
        orderIs("what he has learnt is not set", x, 0, 61, 20, 0, 1);
        due.is("7 times done", 7, x.count(8));
        x.give(1, 0);
        x.teach(1, 1, false);
        x.teach(1, 1, false);
        orderIs("his boy's stripes count", x, 0, 67, 20, 0, 1);
        BeatenInstead y = Made.school("51,93,51;4");
        y.prince(0, 5);
        y.prince(0, 0);
        y.teach(0, 2, true);
        due.is("order() sets none to him", before, y.digest());
        y.give(0, 2);
        y.fond(0, 2, 9);
        orderIs("another boy", y, 0, 8, 5, 0, 1);
    }

    private static void orderOfLikeOnes() {
        BeatenInstead x = Made.school("95,95,95,95,95;0");
        x.prince(0, 0);
        orderIs("all are failed", x, 0, 25, 1, 0, 1, 2, 3, 4);
        x = Made.school("11,21,11;0");
        x.prince(4, 9);
        orderIs("all are learnt", x, 0, 0, 1, 0, 1, 2);
    }

    private static void orderOfNone() {
        BeatenInstead x = Made.school("11,21;0");
        x.prince(0, 9);
        x.teach(0, 0, true);
        orderIs("one is left", x, 0, 0, 1, 1);
        x.teach(0, 1, true);
        orderIs("none is left", x, 0, 0, 1);
    }

    private static void orderRefused() {
        BeatenInstead x = Made.school("11,21;0");
        due.is("order(0, 0) without princes", UNKNOWN, x.order(0, 0));
        x.prince(0, 0);
        due.is("order(1, 0)", UNKNOWN, x.order(1, 0));
        due.is("order(-1, 0)", UNKNOWN, x.order(-1, 0));
        due.is("UNKNOWN comes ahead of OUTSIDE", UNKNOWN, x.order(1, 2));
        for (int what : new int[] {-1, 2, 9, 15, Integer.MIN_VALUE, Integer.MAX_VALUE}) {
            due.is("order(0, " + what + ")", OUTSIDE, x.order(0, what));
        }
        due.is("refused, it is not done", 0, x.count(8));
    }

    private static void orderTwentyTimes() {
        BeatenInstead x = Made.school("95,95,95,95,95;0");
        x.prince(0, 0);
        x.image();
        for (int i = 1; i <= 20; i++) {
            due.is("order() number " + i, 25, x.order(0, 0));
            due.is("times done", i, x.count(8));
        }
        due.is("order() once more", STATE, x.order(0, 10));
        due.is("UNKNOWN comes ahead of STATE", UNKNOWN, x.order(1, 0));
        due.is("OUTSIDE comes ahead of STATE", OUTSIDE, x.order(0, 15));
        due.is("it stays at 20", 20, x.count(8));
        x.restore();
        due.is("also after restore()", STATE, x.order(0, 0));
        Made.page(x, "11;0");
        x.school();
        x.prince(0, 0);
        due.is("also with another school", STATE, x.order(0, 0));
    }

    private static void matchIs(String of, BeatenInstead x, int lesson, int above, int below, int... boys) {
        due.is(of + ": mean above", above, x.match(lesson, 0));
        due.is(of + ": mean below", below, x.match(lesson, 1));
        for (int prince = 0; prince < 3; prince++) {
            int want = prince < boys.length ? boys[prince] : NONE;
            due.is(of + ": boy of " + prince, want, x.match(lesson, 10 + prince));
        }
    }

    private static void match() {
        BeatenInstead x = Made.school("52,15;0");
        x.prince(0, 0);
        x.fond(0, 0, 6);
        x.fond(0, 1, 7);
        x.fond(0, 2, 9);
        matchIs("one prince", x, 0, 6, 5, 2);
        x.prince(0, 0);
        x.fond(1, 1, 5);
        x.fond(1, 2, 9);
        matchIs("each another boy, the fondest not for both", x, 0, 14, 5, 1, 2);
        x.prince(0, 0);
        x.fond(2, 0, 8);
        x.fond(2, 1, 8);
        x.fond(2, 2, 8);
        matchIs("three princes", x, 0, 21, 5, 1, 2, 0);
        due.is("whom they have does not count", 0, x.give(0, 2));
        x.teach(0, 1, true);
        matchIs("also if it is learnt", x, 1, 9, 2, 1, 2, 0);
    }

    private static void matchOfLikeOnes() {
        BeatenInstead x = Made.school("91;0");
        x.prince(0, 0);
        matchIs("one", x, 0, 1, 1, 0);
        x.prince(1, 0);
        matchIs("two", x, 0, 2, 1, 0, 1);
        x.prince(3, 0);
        matchIs("three", x, 0, 3, 1, 0, 1, 2);
        x = Made.school("11;0");
        x.prince(4, 9);
        matchIs("nobody fails", x, 0, 0, 1, 0);
        int[][] ways = {{0, 1, 2}, {0, 2, 1}, {1, 0, 2}, {1, 2, 0}, {2, 0, 1}, {2, 1, 0}};
        for (int[] way : ways) {
            x = Made.school("11;0");
            for (int prince = 0; prince < 3; prince++) {
                x.prince(0, 0);
                x.fond(prince, way[prince], 9);
            }
            matchIs("a way", x, 0, 3, 5, way);
        }
    }

    private static void matchOfNone() {
        BeatenInstead x = Made.school("12;0");
        matchIs("no princes", x, 0, 0, 1);
    }

    private static void matchRefused() {
        BeatenInstead x = new BeatenInstead();
        due.is("match(0, 0) without a school", UNKNOWN, x.match(0, 0));
        x = Made.school("12;0");
        x.prince(0, 0);
        due.is("match(1, 0)", UNKNOWN, x.match(1, 0));
        due.is("match(-1, 0)", UNKNOWN, x.match(-1, 0));
        due.is("UNKNOWN comes ahead of OUTSIDE", UNKNOWN, x.match(1, 2));
        for (int what : new int[] {-1, 2, 9, 13, Integer.MIN_VALUE, Integer.MAX_VALUE}) {
            due.is("match(0, " + what + ")", OUTSIDE, x.match(0, what));
        }
    }

    private static void faultsAre(String of, BeatenInstead x, int stripes, int sets, int inAll) {
        due.is(of + ": sets of " + stripes, sets, x.faults(0, stripes, 0));
        due.is(of + ": failed in all of " + stripes, inAll, x.faults(0, stripes, 1));
    }

    private static void faults() {
        BeatenInstead x = Made.school("12,12,11;9");
        x.prince(0, 0);
        faultsAre("each can be", x, 0, 1, 0);
        faultsAre("each can be", x, 1, 1, 4);
        faultsAre("each can be", x, 2, 2, 0);
        faultsAre("each can be", x, 3, 2, 4);
        faultsAre("each can be", x, 4, 1, 3);
        faultsAre("each can be", x, 5, 1, 7);
        faultsAre("each can be", x, 6, 0, NONE);
        faultsAre("each can be", x, 25, 0, NONE);
        x.teach(0, 1, true);
        faultsAre("one is learnt", x, 2, 1, 1);
        faultsAre("one is learnt", x, 3, 1, 5);
        x.teach(0, 0, true);
        x.teach(0, 2, true);
        faultsAre("all are learnt", x, 0, 1, 0);
        faultsAre("all are learnt", x, 1, 0, NONE);
        x = Made.school("95,95,95,95,95;0");
        x.prince(0, 0);
        faultsAre("all must be failed", x, 25, 1, 31);
        faultsAre("all must be failed", x, 20, 0, NONE);
    }

    /** He learns lesson 1 for certain, unless lesson 0 makes him colder; his boy has stripes. */
    private static void faultsGoOn() {
        BeatenInstead x = Made.school("51,11,93;2");
        x.prince(0, 6);
        faultsAre("fonder", x, 3, 1, 4);
        faultsAre("fonder", x, 4, 1, 5);
        faultsAre("fonder", x, 2, 0, NONE);
        x.prince(0, 0);
        x.give(1, 0);
        x.teach(1, 2, false);
        long before = x.digest();
        faultsAre("colder", x, 0, 1, 0);
        faultsAre("colder", x, 1, 0, NONE);
        faultsAre("colder", x, 2, 0, NONE);
        faultsAre("colder", x, 4, 1, 5);
        faultsAre("colder", x, 5, 1, 7);
        faultsAre("colder", x, 3, 1, 4);
        due.is("faults() sets none", before, x.digest());
        x.give(0, 1);
        faultsAre("another boy", x, 2, 0, NONE);
    }

    private static void faultsOfWhatCanBe() {
        BeatenInstead x = Made.school("12,93;9");
        x.prince(0, 6);
        faultsAre("the first can't be failed", x, 3, 1, 2);
        faultsAre("the first can't be failed", x, 2, 0, NONE);
        x.fond(0, 0, 0);
        faultsAre("the second can't be learnt", x, 0, 0, NONE);
        faultsAre("the second can't be learnt", x, 3, 1, 2);
        faultsAre("the second can't be learnt", x, 5, 1, 3);
    }

    private static void faultsRefused() {
        BeatenInstead x = Made.school("12;0");
        due.is("faults(0, 0, 0) without princes", UNKNOWN, x.faults(0, 0, 0));
        x.prince(0, 0);
        due.is("faults(1, 0, 0)", UNKNOWN, x.faults(1, 0, 0));
        due.is("faults(-1, 0, 0)", UNKNOWN, x.faults(-1, 0, 0));
        due.is("UNKNOWN comes ahead of OUTSIDE", UNKNOWN, x.faults(1, 26, 2));
        due.is("faults(0, -1, 0)", OUTSIDE, x.faults(0, -1, 0));
        due.is("faults(0, 26, 0)", OUTSIDE, x.faults(0, 26, 0));
        due.is("faults(0, 0, -1)", OUTSIDE, x.faults(0, 0, -1));
        due.is("faults(0, 0, 2)", OUTSIDE, x.faults(0, 0, 2));
    }
}
