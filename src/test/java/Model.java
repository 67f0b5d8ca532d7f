import java.util.ArrayList;
import java.util.List;
import java.util.regex.Matcher;
import java.util.regex.Pattern;

/**
 * What the document says, once more, told otherwise and without care for cost: lists of outcomes
 * where the class recurses, every permutation by counting, a pattern for the page. It answers
 * what BeatenInstead is to answer.
 */
final class Model {
    private static final int NONE = -1, UNKNOWN = -101, OUTSIDE = -102, STATE = -103, FULL = -104;
    private static final Pattern SCHOOL = Pattern.compile("[1-9][1-5](,[1-9][1-5]){0,4};[0-9]");

    /** All that changes within one school. */
    private static final class Standing {
        private final List<int[]> princes = new ArrayList<>();
        private final int[] stripes = new int[3];
        private final List<int[]> heard = new ArrayList<>();

        private Standing copy() {
            Standing copy = new Standing();
            for (int[] prince : princes) {
                copy.princes.add(prince.clone());
            }
            System.arraycopy(stripes, 0, copy.stripes, 0, 3);
            copy.heard.addAll(heard);
            return copy;
        }

        private int allStripes() {
            return stripes[0] + stripes[1] + stripes[2];
        }

        private int allLearnt() {
            int learnt = 0;
            for (int[] prince : princes) {
                learnt += Integer.bitCount(prince[LEARNT]);
            }
            return learnt;
        }
    }

    /** What stands where in a prince's row; how fond he is of boy 0 to 2 stands last. */
    private static final int KIND = 0, WIT = 1, BOY = 2, LEARNT = 3, FOND = 4;

    private String page = "";
    private List<int[]> lessons = new ArrayList<>();
    private int limit = 0;
    private Standing now = new Standing();
    private Standing image = null;
    private int reads = 0;
    private int orders = 0;

    private static boolean in(int v, int least, int most) {
        return least <= v && v <= most;
    }

    private boolean noPrince(int prince) {
        return !in(prince, 0, now.princes.size() - 1);
    }

    private boolean noLesson(int lesson) {
        return !in(lesson, 0, lessons.size() - 1);
    }

    int letter(int code) {
        if (!in(code, 32, 126)) {
            return OUTSIDE;
        }
        if (page.length() == 18) {
            return FULL;
        }
        page += (char) code;
        return page.length();
    }

    int blank() {
        int had = page.length();
        page = "";
        return had;
    }

    int fault() {
        for (int length = 1; length <= page.length(); length++) {
            Matcher matcher = SCHOOL.matcher(page.substring(0, length));
            if (!matcher.matches() && !matcher.hitEnd()) {
                return length - 1;
            }
        }
        return page.length();
    }

    int school() {
        if (!SCHOOL.matcher(page).matches()) {
            return STATE;
        }
        String[] halves = page.split(";");
        lessons = new ArrayList<>();
        for (String lesson : halves[0].split(",")) {
            lessons.add(new int[] {lesson.charAt(0) - '0', lesson.charAt(1) - '0'});
        }
        limit = Integer.parseInt(halves[1]);
        page = "";
        now = new Standing();
        image = null;
        reads++;
        return lessons.size();
    }

    int lesson(int lesson, int what) {
        if (noLesson(lesson)) {
            return UNKNOWN;
        }
        if (!in(what, 0, 2)) {
            return OUTSIDE;
        }
        if (what < 2) {
            return lessons.get(lesson)[what];
        }
        int bits = 0;
        for (int prince = 0; prince < now.princes.size(); prince++) {
            bits += ((now.princes.get(prince)[LEARNT] >> lesson) % 2) << prince;
        }
        return bits;
    }

    int stripes(int boy) {
        return lessons.isEmpty() || !in(boy, 0, 2) ? UNKNOWN : now.stripes[boy];
    }

    int prince(int kind, int wit) {
        if (!in(kind, 0, 4) || !in(wit, 0, 9)) {
            return OUTSIDE;
        }
        if (lessons.isEmpty()) {
            return STATE;
        }
        if (now.princes.size() == 3) {
            return FULL;
        }
        now.princes.add(new int[] {kind, wit, now.princes.size(), 0, 5, 5, 5});
        return now.princes.size() - 1;
    }

    private static int feels(int kind, int fond) {
        int proud = fond >= 5 ? fond : 0;
        return new int[] {fond, proud, 9 - fond, fond / 2, proud + 2}[kind];
    }

    private int tenths(int[] prince, int fond, int lesson) {
        int sum = prince[WIT] + feels(prince[KIND], fond) - lessons.get(lesson)[0];
        return sum < 0 ? 0 : sum > 10 ? 10 : sum;
    }

    private int fondThen(int fond, int stripes) {
        if (stripes <= limit) {
            return fond == 9 ? 9 : fond + 1;
        }
        return fond < 2 ? 0 : fond - 2;
    }

    int about(int prince, int what) {
        if (noPrince(prince)) {
            return UNKNOWN;
        }
        int[] row = now.princes.get(prince);
        if (in(what, 0, 2)) {
            return row[what];
        }
        if (what == 3) {
            return feels(row[KIND], row[FOND + row[BOY]]);
        }
        if (what == 4) {
            return row[LEARNT];
        }
        return in(what, 10, 12) ? row[FOND + what - 10] : OUTSIDE;
    }

    int as(int prince, int kind) {
        if (noPrince(prince)) {
            return UNKNOWN;
        }
        if (!in(kind, 0, 4)) {
            return OUTSIDE;
        }
        int his = now.princes.get(prince)[KIND];
        return kind == 0 || kind == his || (his == 4 && kind == 1) ? prince : NONE;
    }

    int give(int prince, int boy) {
        if (noPrince(prince) || !in(boy, 0, 2)) {
            return UNKNOWN;
        }
        int before = now.princes.get(prince)[BOY];
        now.princes.get(prince)[BOY] = boy;
        return before;
    }

    int fond(int prince, int boy, int v) {
        if (noPrince(prince) || !in(boy, 0, 2)) {
            return UNKNOWN;
        }
        if (!in(v, 0, 9)) {
            return OUTSIDE;
        }
        int before = now.princes.get(prince)[FOND + boy];
        now.princes.get(prince)[FOND + boy] = v;
        return before;
    }

    int tenths(int prince, int lesson) {
        if (noPrince(prince) || noLesson(lesson)) {
            return UNKNOWN;
        }
        int[] row = now.princes.get(prince);
        return tenths(row, row[FOND + row[BOY]], lesson);
    }

    int teach(int prince, int lesson, boolean learns) {
        if (noPrince(prince) || noLesson(lesson)) {
            return UNKNOWN;
        }
        int[] row = now.princes.get(prince);
        int tenths = tenths(prince, lesson);
        if ((row[LEARNT] & (1 << lesson)) != 0 || tenths == (learns ? 0 : 10)) {
            return STATE;
        }
        set(now, row, lesson, learns);
        return now.stripes[row[BOY]];
    }

    private void set(Standing standing, int[] row, int lesson, boolean learns) {
        if (learns) {
            row[LEARNT] += 1 << lesson;
            return;
        }
        int boy = row[BOY];
        standing.stripes[boy] += lessons.get(lesson)[1];
        row[FOND + boy] = fondThen(row[FOND + boy], standing.stripes[boy]);
    }

    private List<Integer> lacking(int[] row) {
        List<Integer> lacking = new ArrayList<>();
        for (int lesson = 0; lesson < lessons.size(); lesson++) {
            if ((row[LEARNT] & (1 << lesson)) == 0) {
                lacking.add(lesson);
            }
        }
        return lacking;
    }

    private static List<List<Integer>> permutations(List<Integer> of) {
        List<List<Integer>> all = new ArrayList<>();
        int many = 1;
        for (int i = 2; i <= of.size(); i++) {
            many *= i;
        }
        for (int number = 0; number < many; number++) {
            List<Integer> left = new ArrayList<>(of);
            List<Integer> one = new ArrayList<>();
            int rest = number;
            int block = many;
            while (!left.isEmpty()) {
                block /= left.size();
                one.add(left.remove(rest / block));
                rest %= block;
            }
            all.add(one);
        }
        return all;
    }

    /** What comes of that order if just those at the bits fail: how likely (in 10 to their number), stripes more. */
    private long[] outcome(int[] row, List<Integer> order, int bits) {
        int fond = row[FOND + row[BOY]];
        int had = now.stripes[row[BOY]];
        int more = 0;
        long likely = 1;
        for (int i = 0; i < order.size(); i++) {
            int tenths = tenths(row, fond, order.get(i));
            if ((bits & (1 << i)) == 0) {
                likely *= tenths;
            } else {
                likely *= 10 - tenths;
                more += lessons.get(order.get(i))[1];
                fond = fondThen(fond, had + more);
            }
        }
        return new long[] {likely, more};
    }

    long order(int prince, int what) {
        if (noPrince(prince)) {
            return UNKNOWN;
        }
        if (!in(what, 0, 1) && !in(what, 10, 14)) {
            return OUTSIDE;
        }
        if (orders == 20) {
            return STATE;
        }
        orders++;
        int[] row = now.princes.get(prince);
        List<Integer> best = null;
        long least = 0;
        for (List<Integer> order : permutations(lacking(row))) {
            long mean = 0;
            for (int bits = 0; bits < 1 << order.size(); bits++) {
                long[] outcome = outcome(row, order, bits);
                mean += outcome[0] * outcome[1];
            }
            if (best == null || mean < least) {
                best = order;
                least = mean;
            }
        }
        if (what >= 10) {
            return what - 10 < best.size() ? best.get(what - 10) : NONE;
        }
        long below = 1;
        for (int i = 0; i < best.size(); i++) {
            below *= 10;
        }
        return reduced(least, below)[what];
    }

    private static long[] reduced(long above, long below) {
        long a = above;
        long b = below;
        for (int by : new int[] {2, 5}) {
            while (a % by == 0 && b % by == 0) {
                a /= by;
                b /= by;
            }
        }
        return new long[] {a, b};
    }

    int match(int lesson, int what) {
        if (noLesson(lesson)) {
            return UNKNOWN;
        }
        if (!in(what, 0, 1) && !in(what, 10, 12)) {
            return OUTSIDE;
        }
        int many = now.princes.size();
        List<Integer> best = null;
        int least = 0;
        for (List<Integer> boys : permutations(List.of(0, 1, 2))) {
            int mean = 0;
            for (int prince = 0; prince < many; prince++) {
                int[] row = now.princes.get(prince);
                mean += (10 - tenths(row, row[FOND + boys.get(prince)], lesson)) * lessons.get(lesson)[1];
            }
            if (best == null || mean < least) {
                best = boys;
                least = mean;
            }
        }
        if (what >= 10) {
            return what - 10 < many ? best.get(what - 10) : NONE;
        }
        return (int) reduced(least, 10)[what];
    }

    int faults(int prince, int stripes, int what) {
        if (noPrince(prince)) {
            return UNKNOWN;
        }
        if (!in(stripes, 0, 25) || !in(what, 0, 1)) {
            return OUTSIDE;
        }
        int[] row = now.princes.get(prince);
        List<Integer> order = lacking(row);
        List<Integer> sets = new ArrayList<>();
        for (int bits = 0; bits < 1 << order.size(); bits++) {
            long[] outcome = outcome(row, order, bits);
            if (outcome[0] > 0 && outcome[1] == stripes) {
                int set = 0;
                for (int i = 0; i < order.size(); i++) {
                    set += ((bits >> i) % 2) << order.get(i);
                }
                sets.add(set);
            }
        }
        if (what == 0) {
            return sets.size();
        }
        int inAll = NONE;
        for (int set : sets) {
            inAll = inAll == NONE ? set : inAll & set;
        }
        return inAll;
    }

    int hear(int prince, int lesson, boolean learnt) {
        if (noPrince(prince) || noLesson(lesson)) {
            return UNKNOWN;
        }
        if (now.heard.size() == 6) {
            return FULL;
        }
        now.heard.add(new int[] {prince, lesson, learnt ? 0 : 10});
        return now.heard.size();
    }

    int forget() {
        int had = now.heard.size();
        now.heard.clear();
        return had;
    }

    int fondness(int prince) {
        if (noPrince(prince)) {
            return UNKNOWN;
        }
        int bits = 1023;
        for (int[] heard : now.heard) {
            for (int fond = 0; fond < 10; fond++) {
                if (heard[0] == prince && tenths(now.princes.get(prince), fond, heard[1]) == heard[2]) {
                    bits &= ~(1 << fond);
                }
            }
        }
        return bits;
    }

    int schools(int times, int seed, int what) {
        if (!in(times, 1, 20) || seed < 0 || !in(what, 0, 2)) {
            return OUTSIDE;
        }
        if (now.princes.isEmpty()) {
            return STATE;
        }
        Standing would = now.copy();
        long drawn = seed;
        for (int time = 0; time < times; time++) {
            for (int[] row : would.princes) {
                for (int lesson : lacking(row)) {
                    drawn = (1103515245L * drawn + 12345) % 2147483648L;
                    boolean learns = drawn / 65536 % 10 < tenths(row, row[FOND + row[BOY]], lesson);
                    set(would, row, lesson, learns);
                }
            }
        }
        long[] answers = {would.allStripes() - now.allStripes(), would.allLearnt(), drawn};
        return (int) answers[what];
    }

    int image() {
        if (lessons.isEmpty()) {
            return STATE;
        }
        image = now.copy();
        return now.allStripes();
    }

    int restore() {
        if (image == null) {
            return STATE;
        }
        now = image.copy();
        return now.allStripes();
    }

    int count(int what) {
        if (!in(what, 0, 8)) {
            return OUTSIDE;
        }
        return new int[] {lessons.size(), limit, now.princes.size(), now.allStripes(), now.allLearnt(),
            now.heard.size(), page.length(), reads, orders}[what];
    }

    long digest() {
        List<Integer> numbers = new ArrayList<>();
        if (!lessons.isEmpty()) {
            for (int boy = 0; boy < 3; boy++) {
                numbers.add(stripes(boy));
            }
        }
        for (int lesson = 0; lesson < lessons.size(); lesson++) {
            for (int what = 0; what < 3; what++) {
                numbers.add(lesson(lesson, what));
            }
            for (int what : new int[] {0, 1, 10, 11, 12}) {
                numbers.add(match(lesson, what));
            }
        }
        for (int prince = 0; prince < now.princes.size(); prince++) {
            for (int what : new int[] {0, 1, 2, 3, 4, 10, 11, 12}) {
                numbers.add(about(prince, what));
            }
            for (int lesson = 0; lesson < lessons.size(); lesson++) {
                numbers.add(tenths(prince, lesson));
            }
            numbers.add(fondness(prince));
        }
        for (char letter : page.toCharArray()) {
            numbers.add((int) letter);
        }
        for (int what = 0; what < 9; what++) {
            numbers.add(count(what));
        }
        long h = 877;
        for (int number : numbers) {
            h = 31 * h + number;
        }
        return h;
    }
}
