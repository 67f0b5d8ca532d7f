/** Promises 22 to 25: what is told of all. */
public final class WholeTest {
    private static final int UNKNOWN = BeatenInstead.UNKNOWN, OUTSIDE = BeatenInstead.OUTSIDE;
    private static final int STATE = BeatenInstead.STATE;

    private static final Due due = new Due("whole");

    public static void main(String[] args) {
        imageAndRestore();
        whatAnImageKeeps();
        whatAnImageDoesNotKeep();
        princesSinceTheImage();
        theLatestImage();
        restoreRefused();
        count();
        digestWithoutASchool();
        digest();
        digestTellsAll();
        refusalsChangeNothing();
        objectsAreApart();
        due.end();
    }

    private static void imageAndRestore() {
        BeatenInstead x = Made.school("93,52;0");
        due.is("image() without princes", 0, x.image());
        x.prince(0, 0);
        x.prince(0, 0);
        x.teach(0, 0, false);
        x.teach(1, 1, false);
        due.is("image()", 5, x.image());
        x.teach(1, 1, false);
        due.is("stripes since", 7, x.count(3));
        due.is("restore()", 5, x.restore());
        due.is("stripes of 0", 3, x.stripes(0));
        due.is("stripes of 1", 2, x.stripes(1));
        x.teach(0, 0, false);
        due.is("restore() of the same again", 5, x.restore());
    }

    private static void whatAnImageKeeps() {
        BeatenInstead x = Made.school("51,12;0");
        x.prince(0, 5);
        x.prince(2, 0);
        x.fond(1, 2, 8);
        x.give(0, 2);
        x.teach(0, 1, true);
        x.teach(1, 0, false);
        x.hear(1, 0, true);
        x.hear(0, 0, false);
        x.hear(0, 1, true);
        due.is("heard of 1", 0x00f, x.fondness(1));
        long before = x.digest();
        x.image();
        x.fond(1, 2, 0);
        x.fond(0, 0, 9);
        x.give(0, 1);
        x.give(1, 1);
        x.teach(0, 0, true);
        x.teach(1, 1, false);
        x.forget();
        x.hear(0, 1, false);
        x.hear(1, 1, false);
        x.hear(1, 1, false);
        x.prince(4, 4);
        due.isTrue("all is another since", x.digest() != before);
        x.restore();
        due.is("all is as it was", before, x.digest());
        due.is("heard of 1, as it was", 0x00f, x.fondness(1));
        x.forget();
        due.isTrue("it goes on from there", x.digest() != before);
        x.restore();
        due.is("all is as it was, again", before, x.digest());
    }

    private static void whatAnImageDoesNotKeep() {
        BeatenInstead x = Made.school("51;0");
        x.prince(0, 5);
        x.image();
        x.order(0, 0);
        Made.type(x, "ab");
        x.restore();
        due.is("the page stays", 2, x.count(6));
        due.is("order() stays done", 1, x.count(8));
        due.is("the school stays read", 1, x.count(7));
    }

    private static void princesSinceTheImage() {
        BeatenInstead x = Made.school("51,51;0");
        x.prince(1, 7);
        x.image();
        x.prince(2, 8);
        x.fond(1, 0, 9);
        x.give(1, 2);
        x.teach(1, 0, true);
        x.hear(1, 0, true);
        x.restore();
        due.is("princes", 1, x.count(2));
        due.is("the one that came since is gone", UNKNOWN, x.about(1, 0));
        due.is("who learnt", 0, x.lesson(0, 2));
        due.is("learnt of all", 0, x.count(4));
        due.is("heard", 0, x.count(5));
        due.is("another one comes", 1, x.prince(3, 6));
        int[] want = {3, 6, 1, 2, 0};
        for (int what = 0; what <= 4; what++) {
            due.is("about(1, " + what + ") of another one", want[what], x.about(1, what));
        }
        due.is("as fond as at first", 5, x.about(1, 10));
        due.is("nothing heard of him", 1023, x.fondness(1));
        due.is("the one of before is still there", 1, x.about(0, 0));
    }

    private static void theLatestImage() {
        BeatenInstead x = Made.school("93;0");
        x.prince(0, 0);
        x.image();
        x.teach(0, 0, false);
        due.is("a later image()", 3, x.image());
        x.teach(0, 0, false);
        due.is("restore() of the latest", 3, x.restore());
    }

    private static void restoreRefused() {
        BeatenInstead x = new BeatenInstead();
        due.is("image() without a school", STATE, x.image());
        due.is("restore() without a school", STATE, x.restore());
        x = Made.school("93;0");
        due.is("restore() without an image", STATE, x.restore());
        x.image();
        Made.type(x, "93;0");
        x.school();
        due.is("restore() with another school since", STATE, x.restore());
        due.is("image() of that", 0, x.image());
        due.is("restore() of that", 0, x.restore());
    }

    private static void count() {
        BeatenInstead x = Made.school("93,51,11;7");
        x.prince(0, 5);
        x.prince(0, 5);
        x.teach(0, 0, false);
        x.teach(1, 1, false);
        x.teach(0, 1, true);
        x.teach(1, 1, true);
        x.teach(1, 2, true);
        x.hear(0, 0, true);
        x.hear(1, 0, true);
        x.order(0, 0);
        x.order(1, 14);
        x.order(1, 15);
        Made.type(x, "93,5");
        int[] want = {3, 7, 2, 4, 3, 2, 4, 1, 2};
        for (int what = 0; what <= 8; what++) {
            due.is("count(" + what + ")", want[what], x.count(what));
        }
        due.is("count(-1)", OUTSIDE, x.count(-1));
        due.is("count(9)", OUTSIDE, x.count(9));
        due.is("count(least)", OUTSIDE, x.count(Integer.MIN_VALUE));
        due.is("count(most)", OUTSIDE, x.count(Integer.MAX_VALUE));
    }

    private static long mix(long h, long... numbers) {
        long mixed = h;
        for (long number : numbers) {
            mixed = 31 * mixed + number;
        }
        return mixed;
    }

    private static void digestWithoutASchool() {
        BeatenInstead x = new BeatenInstead();
        due.is("digest() of a new object", mix(877, 0, 0, 0, 0, 0, 0, 0, 0, 0), x.digest());
        Made.type(x, "z ~");
        due.is("digest() with letters", mix(877, 122, 32, 126, 0, 0, 0, 0, 0, 0, 3, 0, 0), x.digest());
    }

    private static void digest() {
        BeatenInstead x = Made.school("51,93;4");
        due.is("digest() without princes",
                mix(877, 0, 0, 0, 5, 1, 0, 0, 1, -1, -1, -1, 9, 3, 0, 0, 1, -1, -1, -1, 2, 4, 0, 0, 0, 0, 0, 1, 0),
                x.digest());
        x.prince(4, 0);
        x.prince(2, 5);
        x.fond(1, 0, 2);
        x.teach(0, 0, true);
        x.teach(1, 1, false);
        x.hear(1, 1, true);
        x.order(1, 0);
        x.letter(33);
        long want = mix(877, 0, 3, 0);
        want = mix(want, 5, 1, 1, 11, 10, 1, 0, -1);
        want = mix(want, 9, 3, 0, 51, 10, 1, 0, -1);
        want = mix(want, 4, 0, 0, 7, 1, 5, 5, 5, 2, 0, 1023);
        want = mix(want, 2, 5, 1, 3, 0, 2, 6, 5, 3, 0, 0x01f);
        want = mix(want, 33, 2, 4, 2, 3, 1, 1, 1, 1, 1);
        due.is("digest()", want, x.digest());
        due.is("digest() again", want, x.digest());
    }

    /** Whatever is another changes the digest. */
    private static void digestTellsAll() {
        BeatenInstead x = Made.school("51,93;4");
        x.prince(0, 5);
        x.prince(3, 5);
        long[] told = new long[9];
        told[0] = x.digest();
        x.fond(0, 2, 9);
        told[1] = x.digest();
        x.give(1, 0);
        told[2] = x.digest();
        x.teach(0, 0, true);
        told[3] = x.digest();
        x.teach(1, 1, false);
        told[4] = x.digest();
        x.hear(0, 0, true);
        told[5] = x.digest();
        x.order(0, 0);
        told[6] = x.digest();
        x.letter(65);
        told[7] = x.digest();
        x.blank();
        x.letter(66);
        told[8] = x.digest();
        for (int i = 0; i < told.length; i++) {
            for (int j = 0; j < i; j++) {
                due.isTrue("digests " + j + " and " + i + " differ", told[i] != told[j]);
            }
        }
    }

    private static void refusalsChangeNothing() {
        BeatenInstead x = Made.school("51,93;4");
        x.prince(0, 0);
        x.prince(0, 0);
        x.prince(0, 0);
        x.teach(0, 1, false);
        for (int i = 0; i < 6; i++) {
            x.hear(0, 0, true);
        }
        x.image();
        Made.type(x, "0123456789abcdefgh");
        long before = x.digest();
        int[] odd = {-1, 5, 99, Integer.MIN_VALUE, Integer.MAX_VALUE};
        for (int a : odd) {
            x.letter(a == 99 ? 127 : a);
            x.letter(65);
            x.school();
            x.lesson(a, 0);
            x.lesson(0, a);
            x.stripes(a);
            x.prince(a, 0);
            x.prince(0, a == 5 ? 10 : a);
            x.prince(0, 0);
            x.about(a, 0);
            x.about(0, a);
            x.as(a, 0);
            x.as(0, a);
            x.give(a, 0);
            x.give(0, a);
            x.fond(a, 0, 0);
            x.fond(0, a, 0);
            x.fond(0, 0, a == 5 ? 10 : a);
            x.tenths(a, 0);
            x.tenths(0, a);
            x.teach(a, 0, false);
            x.teach(0, a, false);
            x.teach(0, 1, true);
            x.order(a, 0);
            x.order(0, a);
            x.match(a, 0);
            x.match(0, a);
            x.faults(a, 0, 0);
            x.faults(0, a == 5 ? 26 : a, 0);
            x.faults(0, 0, a);
            x.hear(a, 0, true);
            x.hear(0, a, true);
            x.hear(0, 0, true);
            x.fondness(a);
            x.schools(a == 5 ? 21 : a, 0, 0);
            x.schools(1, a > 0 ? -a : a, 0);
            x.schools(1, 0, a);
            x.count(a == 5 ? 9 : a);
            due.is("nothing is changed by refusals, with " + a, before, x.digest());
        }
        due.is("the image, too, is as it was", 3, x.restore());
        due.is("restored, all is as it was", before, x.digest());
    }

    private static void objectsAreApart() {
        BeatenInstead x = Made.school("93;0");
        BeatenInstead y = Made.school("11;0");
        x.prince(0, 0);
        y.prince(4, 9);
        x.teach(0, 0, false);
        y.teach(0, 0, true);
        due.is("stripes of one", 3, x.stripes(0));
        due.is("stripes of the other", 0, y.stripes(0));
        due.is("learnt of one", 0, x.count(4));
        due.is("learnt of the other", 1, y.count(4));
    }
}
