/**
 * A school in which a boy is beaten for a prince's faults. What each call answers is told in
 * shared/DOC.md, whose words (SCHOOL, FOND, FEELS, TENTHS ..) the names here follow.
 */
public final class BeatenInstead {
    public static final int NONE = -1, UNKNOWN = -101, OUTSIDE = -102, STATE = -103, FULL = -104;

    private static final int MOST_LETTERS = 18, FIRST_CODE = 32, LAST_CODE = 126;
    private static final int MOST_LESSONS = 5, MOST_BLOWS = 5;
    private static final int MOST_PRINCES = 3, BOYS = 3, MOST_WIT = 9;
    private static final int MOST_FOND = 9, FOND_AT_FIRST = 5, FONDER = 1, COLDER = 2;

    /** TENTHS by which one is sure to learn: the whole, in all that is likely. */
    private static final int SURE = 10;

    private static final int MOST_HEARD = 6, MOST_ORDERS = 20, MOST_TIMES = 20;
    private static final int MOST_STRIPES_MORE = MOST_LESSONS * MOST_BLOWS;

    private static final int KIND_PRINCE = 0, KIND_PROUD = 1, KIND_CRUEL = 2, KIND_LAZY = 3, KIND_HIGH = 4;
    private static final int PRIDE = 5, HEIGHT = 2;

    /** The questions from 10 on, of several calls, are about one of a row: 10 + its number. */
    private static final int ROW = 10;

    /** All ways to give three BOYS to three PRINCES, in their order by numbers, each a row of three. */
    private static final int[] MATCHES = {0, 1, 2, 0, 2, 1, 1, 0, 2, 1, 2, 0, 2, 0, 1, 2, 1, 0};

    private static final long FACTOR = 1103515245L, ADDEND = 12345L, SEED_BITS = 0x7fffffffL;
    private static final int DRAW_DIVISOR = 65536;
    private static final int MOST_DIVISIONS = 100;
    private static final int COUNTS = 9;

    private final Page page = new Page();
    private final Text text = new Text();
    private final Prince[] princes = new Prince[MOST_PRINCES];
    private final Standing now = new Standing();
    private final Standing kept = new Standing();
    private final Standing trial = new Standing();
    private final Ordering ordering = new Ordering();
    private final Blame blame = new Blame();
    private boolean hasImage = false;
    private int timesRead = 0;
    private int timesOrdered = 0;

    public BeatenInstead() {
    }

    // ---- the school

    public int letter(int code) {
        if (code < FIRST_CODE || code > LAST_CODE) {
            return OUTSIDE;
        }
        if (page.size >= MOST_LETTERS) {
            return FULL;
        }
        page.add(code);
        return page.size;
    }

    public int blank() {
        int had = page.size;
        page.size = 0;
        return had;
    }

    public int fault() {
        return page.firstFault();
    }

    public int school() {
        if (!page.isWhole()) {
            return STATE;
        }
        text.read(page);
        page.size = 0;
        now.clear();
        hasImage = false;
        timesRead++;
        return text.lessons;
    }

    public int lesson(int lesson, int what) {
        if (!text.has(lesson)) {
            return UNKNOWN;
        }
        switch (what) {
            case 0:
                return text.hardOf(lesson);
            case 1:
                return text.blowsOf(lesson);
            case 2:
                return now.whoLearnt(lesson);
            default:
                return OUTSIDE;
        }
    }

    public int stripes(int boy) {
        return text.isRead() && isBoy(boy) ? now.stripesOf(boy) : UNKNOWN;
    }

    // ---- princes

    public int prince(int kind, int wit) {
        if (!isKind(kind) || wit < 0 || wit > MOST_WIT) {
            return OUTSIDE;
        }
        if (!text.isRead()) {
            return STATE;
        }
        int number = now.princes;
        if (number < 0 || number >= princes.length) {
            return FULL;
        }
        princes[number] = makePrince(kind, wit);
        now.addPrince();
        return number;
    }

    public int about(int prince, int what) {
        Prince who = princeOf(prince);
        if (who == null) {
            return UNKNOWN;
        }
        switch (what) {
            case 0:
                return who.kind();
            case 1:
                return who.wit;
            case 2:
                return now.boyOf(prince);
            case 3:
                return who.feels(now.fondOfHisBoy(prince));
            case 4:
                return now.learntBy(prince);
            default:
                return isBoy(what - ROW) ? now.fondOf(prince, what - ROW) : OUTSIDE;
        }
    }

    public int as(int prince, int kind) {
        Prince who = princeOf(prince);
        if (who == null) {
            return UNKNOWN;
        }
        if (!isKind(kind)) {
            return OUTSIDE;
        }
        return who.isOf(kind) ? prince : NONE;
    }

    public int give(int prince, int boy) {
        if (princeOf(prince) == null || !isBoy(boy)) {
            return UNKNOWN;
        }
        int before = now.boyOf(prince);
        now.setBoy(prince, boy);
        return before;
    }

    public int fond(int prince, int boy, int v) {
        if (princeOf(prince) == null || !isBoy(boy)) {
            return UNKNOWN;
        }
        if (v < 0 || v > MOST_FOND) {
            return OUTSIDE;
        }
        int before = now.fondOf(prince, boy);
        now.setFond(prince, boy, v);
        return before;
    }

    public int tenths(int prince, int lesson) {
        Prince who = princeOf(prince);
        if (who == null || !text.has(lesson)) {
            return UNKNOWN;
        }
        return text.tenthsFor(who, now.fondOfHisBoy(prince), lesson);
    }

    public int teach(int prince, int lesson, boolean learns) {
        Prince who = princeOf(prince);
        if (who == null || !text.has(lesson)) {
            return UNKNOWN;
        }
        int tenths = text.tenthsFor(who, now.fondOfHisBoy(prince), lesson);
        if (isIn(now.learntBy(prince), lesson) || !canBe(tenths, learns)) {
            return STATE;
        }
        setLesson(now, prince, lesson, learns);
        return now.stripesOf(now.boyOf(prince));
    }

    // ---- what would be

    public long order(int prince, int what) {
        Prince who = princeOf(prince);
        if (who == null) {
            return UNKNOWN;
        }
        if (!isMeanOrRow(what, MOST_LESSONS)) {
            return OUTSIDE;
        }
        if (timesOrdered >= MOST_ORDERS) {
            return STATE;
        }
        timesOrdered++;
        int boy = now.boyOf(prince);
        ordering.find(text, who, now.learntBy(prince), now.fondOf(prince, boy), now.stripesOf(boy));
        if (what >= ROW) {
            return ordering.lessonAt(what - ROW);
        }
        return inLowestTerms(ordering.bestMean, ordering.whole, what);
    }

    public int match(int lesson, int what) {
        if (!text.has(lesson)) {
            return UNKNOWN;
        }
        if (!isMeanOrRow(what, MOST_PRINCES)) {
            return OUTSIDE;
        }
        int row = bestMatch(lesson);
        if (what >= ROW) {
            int prince = what - ROW;
            return prince < now.princes ? at(MATCHES, row + prince) : NONE;
        }
        long mean = (long) failTenths(lesson, row) * text.blowsOf(lesson);
        return (int) inLowestTerms(mean, SURE, what);
    }

    public int faults(int prince, int stripes, int what) {
        Prince who = princeOf(prince);
        if (who == null) {
            return UNKNOWN;
        }
        if (stripes < 0 || stripes > MOST_STRIPES_MORE || what < 0 || what > 1) {
            return OUTSIDE;
        }
        int boy = now.boyOf(prince);
        int had = now.stripesOf(boy);
        blame.find(text, who, now.learntBy(prince), now.fondOf(prince, boy), had, had + stripes);
        if (what == 0) {
            return blame.sets;
        }
        return blame.sets == 0 ? NONE : blame.inAll;
    }

    // ---- what is heard

    public int hear(int prince, int lesson, boolean learnt) {
        if (princeOf(prince) == null || !text.has(lesson)) {
            return UNKNOWN;
        }
        if (now.heard >= MOST_HEARD) {
            return FULL;
        }
        now.addHeard(prince, lesson, learnt);
        return now.heard;
    }

    public int forget() {
        int had = now.heard;
        now.heard = 0;
        return had;
    }

    public int fondness(int prince) {
        Prince who = princeOf(prince);
        if (who == null) {
            return UNKNOWN;
        }
        int bits = 0;
        for (int fond = 0; fond <= MOST_FOND; fond++) {
            if (agreesWithHeard(prince, who, fond)) {
                bits |= 1 << fond;
            }
        }
        return bits;
    }

    public int schools(int times, int seed, int what) {
        if (times < 1 || times > MOST_TIMES || seed < 0 || what < 0 || what > 2) {
            return OUTSIDE;
        }
        if (now.princes == 0) {
            return STATE;
        }
        trial.copyFrom(now);
        int seedThen = seed;
        for (int time = 0; time < times; time++) {
            for (int prince = 0; prince < now.princes; prince++) {
                seedThen = drawLessons(prince, seedThen);
            }
        }
        switch (what) {
            case 0:
                return trial.allStripes() - now.allStripes();
            case 1:
                return trial.allLearnt();
            default:
                return seedThen;
        }
    }

    // ---- what is told of all

    public int image() {
        if (!text.isRead()) {
            return STATE;
        }
        kept.copyFrom(now);
        hasImage = true;
        return now.allStripes();
    }

    public int restore() {
        if (!hasImage) {
            return STATE;
        }
        now.copyFrom(kept);
        return now.allStripes();
    }

    public int count(int what) {
        switch (what) {
            case 0:
                return text.lessons;
            case 1:
                return text.limit;
            case 2:
                return now.princes;
            case 3:
                return now.allStripes();
            case 4:
                return now.allLearnt();
            case 5:
                return now.heard;
            case 6:
                return page.size;
            case 7:
                return timesRead;
            case 8:
                return timesOrdered;
            default:
                return OUTSIDE;
        }
    }

    public long digest() {
        long h = 877;
        for (int boy = 0; text.isRead() && boy < BOYS; boy++) {
            h = mix(h, stripes(boy));
        }
        for (int lesson = 0; lesson < text.lessons; lesson++) {
            for (int what = 0; what <= 2; what++) {
                h = mix(h, lesson(lesson, what));
            }
            h = mix(mix(h, match(lesson, 0)), match(lesson, 1));
            for (int prince = 0; prince < MOST_PRINCES; prince++) {
                h = mix(h, match(lesson, ROW + prince));
            }
        }
        for (int prince = 0; prince < now.princes; prince++) {
            h = mixPrince(h, prince);
        }
        for (int place = 0; place < page.size; place++) {
            h = mix(h, page.codeAt(place));
        }
        for (int what = 0; what < COUNTS; what++) {
            h = mix(h, count(what));
        }
        return h;
    }

    private long mixPrince(long before, int prince) {
        long h = before;
        for (int what = 0; what <= 4; what++) {
            h = mix(h, about(prince, what));
        }
        for (int boy = 0; boy < BOYS; boy++) {
            h = mix(h, about(prince, ROW + boy));
        }
        for (int lesson = 0; lesson < text.lessons; lesson++) {
            h = mix(h, tenths(prince, lesson));
        }
        return mix(h, fondness(prince));
    }

    private static long mix(long h, long number) {
        return 31 * h + number;
    }

    // ---- what several calls ask

    private static boolean isBoy(int boy) {
        return boy >= 0 && boy < BOYS;
    }

    private static boolean isKind(int kind) {
        return kind >= KIND_PRINCE && kind <= KIND_HIGH;
    }

    private static boolean isMeanOrRow(int what, int length) {
        return what == 0 || what == 1 || (what >= ROW && what < ROW + length);
    }

    private static boolean isIn(int bits, int number) {
        return ((bits >> number) & 1) != 0;
    }

    /** The PRINCE of that number, null if there is none. */
    private Prince princeOf(int number) {
        boolean is = number >= 0 && number < now.princes && number < princes.length;
        return is ? princes[number] : null;
    }

    private static Prince makePrince(int kind, int wit) {
        switch (kind) {
            case KIND_PROUD:
                return new Proud(wit);
            case KIND_CRUEL:
                return new Cruel(wit);
            case KIND_LAZY:
                return new Lazy(wit);
            case KIND_HIGH:
                return new High(wit);
            default:
                return new Prince(wit);
        }
    }

    /** Whether one with so many TENTHS can learn, or fail. */
    private static boolean canBe(int tenths, boolean learns) {
        return learns ? tenths > 0 : tenths < SURE;
    }

    private static int fondAfterBlows(int fond, int stripes, int limit) {
        return stripes <= limit ? Math.min(MOST_FOND, fond + FONDER) : Math.max(0, fond - COLDER);
    }

    private void setLesson(Standing of, int prince, int lesson, boolean learns) {
        if (learns) {
            of.learn(prince, lesson);
        } else {
            of.beat(prince, text.blowsOf(lesson), text.limit);
        }
    }

    /** Where in MATCHES the first row begins by which fewest BLOWS are to be looked for. */
    private int bestMatch(int lesson) {
        int best = 0;
        int fewest = failTenths(lesson, best);
        for (int row = BOYS; row < MATCHES.length; row += BOYS) {
            int tenths = failTenths(lesson, row);
            if (tenths < fewest) {
                fewest = tenths;
                best = row;
            }
        }
        return best;
    }

    /** By how many TENTHS the PRINCES fail the LESSON in all, if that row of MATCHES tells their BOYS. */
    private int failTenths(int lesson, int row) {
        int sum = 0;
        for (int prince = 0; prince < now.princes; prince++) {
            Prince who = princeOf(prince);
            if (who != null) {
                int fond = now.fondOf(prince, at(MATCHES, row + prince));
                sum += SURE - text.tenthsFor(who, fond, lesson);
            }
        }
        return sum;
    }

    private boolean agreesWithHeard(int prince, Prince who, int fond) {
        for (int place = 0; place < now.heard; place++) {
            if (at(now.heardPrince, place) == prince) {
                int tenths = text.tenthsFor(who, fond, at(now.heardLesson, place));
                if (!canBe(tenths, at(now.heardLearnt, place) != 0)) {
                    return false;
                }
            }
        }
        return true;
    }

    /** On trial, all LESSONS that he lacks are set to him: the SEED then. */
    private int drawLessons(int prince, int seed) {
        Prince who = princeOf(prince);
        int seedThen = seed;
        for (int lesson = 0; who != null && lesson < text.lessons; lesson++) {
            if (!isIn(trial.learntBy(prince), lesson)) {
                seedThen = nextSeed(seedThen);
                int draw = (seedThen / DRAW_DIVISOR) % SURE;
                int tenths = text.tenthsFor(who, trial.fondOfHisBoy(prince), lesson);
                setLesson(trial, prince, lesson, draw < tenths);
            }
        }
        return seedThen;
    }

    private static int nextSeed(int seed) {
        return (int) ((FACTOR * seed + ADDEND) & SEED_BITS);
    }

    /** Of a fraction in lowest terms: what = 0 the number above, else the one below. */
    private static long inLowestTerms(long above, long below, int what) {
        long part = what == 0 ? above : below;
        long common = commonDivisor(above, below);
        return common == 0 ? part : part / common;
    }

    private static long commonDivisor(long first, long second) {
        long a = first;
        long b = second;
        for (int i = 0; i < MOST_DIVISIONS && b != 0; i++) {
            long rest = a % b;
            a = b;
            b = rest;
        }
        return a;
    }

    // Every place in a row of numbers is looked at here, so that none can be missed elsewhere.

    private static int at(int[] row, int place) {
        return place >= 0 && place < row.length ? row[place] : 0;
    }

    private static void put(int[] row, int place, int value) {
        if (place >= 0 && place < row.length) {
            row[place] = value;
        }
    }

    private static void copy(int[] from, int[] to) {
        for (int place = 0; place < from.length && place < to.length; place++) {
            to[place] = from[place];
        }
    }

    private static void fill(int[] row, int value) {
        for (int place = 0; place < row.length; place++) {
            row[place] = value;
        }
    }

    private static int sum(int[] row) {
        int sum = 0;
        for (int place = 0; place < row.length; place++) {
            sum += row[place];
        }
        return sum;
    }

    /** THE PAGE. A LESSON takes three places of it: HARD, BLOWS, and "," or ";" behind. */
    private static final class Page {
        private static final int WIDTH = 3;
        private static final int LAST_MARK = WIDTH * MOST_LESSONS - 1;

        private final int[] codes = new int[MOST_LETTERS];
        private int size = 0;

        private void add(int code) {
            put(codes, size, code);
            size++;
        }

        private int codeAt(int place) {
            return at(codes, place);
        }

        private int digitAt(int place) {
            return at(codes, place) - '0';
        }

        private int firstFault() {
            int end = size;
            for (int place = 0; place < size; place++) {
                boolean fits = place > end ? isLimit(place, end) : isOfLesson(place);
                if (!fits) {
                    return place;
                }
                if (codeAt(place) == ';') {
                    end = place;
                }
            }
            return size;
        }

        private boolean isLimit(int place, int end) {
            return place == end + 1 && isDigit(place, 0, 9);
        }

        private boolean isOfLesson(int place) {
            switch (place % WIDTH) {
                case 0:
                    return isDigit(place, 1, 9);
                case 1:
                    return isDigit(place, 1, MOST_BLOWS);
                default:
                    return codeAt(place) == ';' || (codeAt(place) == ',' && place < LAST_MARK);
            }
        }

        private boolean isDigit(int place, int least, int most) {
            return digitAt(place) >= least && digitAt(place) <= most;
        }

        /** A page without a fault is a whole SCHOOL only if it has come as far as the LIMIT. */
        private boolean isWhole() {
            return firstFault() == size && codeAt(size - 2) == ';';
        }
    }

    /** THE SCHOOL as it was read; no LESSONS: there is none. */
    private static final class Text {
        private final int[] hard = new int[MOST_LESSONS];
        private final int[] blows = new int[MOST_LESSONS];
        private int lessons = 0;
        private int limit = 0;

        private void read(Page page) {
            lessons = page.size / Page.WIDTH;
            for (int lesson = 0; lesson < lessons; lesson++) {
                put(hard, lesson, page.digitAt(Page.WIDTH * lesson));
                put(blows, lesson, page.digitAt(Page.WIDTH * lesson + 1));
            }
            limit = page.digitAt(page.size - 1);
        }

        private boolean isRead() {
            return lessons > 0;
        }

        private boolean has(int lesson) {
            return lesson >= 0 && lesson < lessons;
        }

        private int hardOf(int lesson) {
            return at(hard, lesson);
        }

        private int blowsOf(int lesson) {
            return at(blows, lesson);
        }

        private int tenthsFor(Prince who, int fond, int lesson) {
            int tenths = who.wit + who.feels(fond) - hardOf(lesson);
            return Math.max(0, Math.min(SURE, tenths));
        }
    }

    private static class Prince {
        final int wit;

        Prince(int wit) {
            this.wit = wit;
        }

        int kind() {
            return KIND_PRINCE;
        }

        int feels(int fond) {
            return fond;
        }

        final boolean isOf(int kind) {
            switch (kind) {
                case KIND_PRINCE:
                    return true;
                case KIND_PROUD:
                    return this instanceof Proud;
                case KIND_CRUEL:
                    return this instanceof Cruel;
                case KIND_LAZY:
                    return this instanceof Lazy;
                default:
                    return this instanceof High;
            }
        }
    }

    private static class Proud extends Prince {
        Proud(int wit) {
            super(wit);
        }

        int kind() {
            return KIND_PROUD;
        }

        int feels(int fond) {
            return fond < PRIDE ? 0 : fond;
        }
    }

    private static final class Cruel extends Prince {
        Cruel(int wit) {
            super(wit);
        }

        int kind() {
            return KIND_CRUEL;
        }

        int feels(int fond) {
            return MOST_FOND - fond;
        }
    }

    private static final class Lazy extends Prince {
        Lazy(int wit) {
            super(wit);
        }

        int kind() {
            return KIND_LAZY;
        }

        int feels(int fond) {
            return fond / 2;
        }
    }

    private static final class High extends Proud {
        High(int wit) {
            super(wit);
        }

        int kind() {
            return KIND_HIGH;
        }

        int feels(int fond) {
            return super.feels(fond) + HEIGHT;
        }
    }

    /** All that an IMAGE keeps. KIND and WIT stay as they are, so they are not in it. */
    private static final class Standing {
        private int princes = 0;
        private final int[] fond = new int[MOST_PRINCES * BOYS];
        private final int[] boys = new int[MOST_PRINCES];
        private final int[] learnt = new int[MOST_PRINCES];
        private final int[] stripes = new int[BOYS];
        private int heard = 0;
        private final int[] heardPrince = new int[MOST_HEARD];
        private final int[] heardLesson = new int[MOST_HEARD];
        private final int[] heardLearnt = new int[MOST_HEARD];

        private void clear() {
            princes = 0;
            heard = 0;
            fill(stripes, 0);
        }

        private void copyFrom(Standing other) {
            princes = other.princes;
            copy(other.fond, fond);
            copy(other.boys, boys);
            copy(other.learnt, learnt);
            copy(other.stripes, stripes);
            heard = other.heard;
            copy(other.heardPrince, heardPrince);
            copy(other.heardLesson, heardLesson);
            copy(other.heardLearnt, heardLearnt);
        }

        private void addPrince() {
            for (int boy = 0; boy < BOYS; boy++) {
                setFond(princes, boy, FOND_AT_FIRST);
            }
            setBoy(princes, princes);
            put(learnt, princes, 0);
            princes++;
        }

        private void addHeard(int prince, int lesson, boolean hasLearnt) {
            put(heardPrince, heard, prince);
            put(heardLesson, heard, lesson);
            put(heardLearnt, heard, hasLearnt ? 1 : 0);
            heard++;
        }

        private int fondOf(int prince, int boy) {
            return at(fond, prince * BOYS + boy);
        }

        private void setFond(int prince, int boy, int value) {
            put(fond, prince * BOYS + boy, value);
        }

        private int boyOf(int prince) {
            return at(boys, prince);
        }

        private void setBoy(int prince, int boy) {
            put(boys, prince, boy);
        }

        private int fondOfHisBoy(int prince) {
            return fondOf(prince, boyOf(prince));
        }

        private int stripesOf(int boy) {
            return at(stripes, boy);
        }

        private int allStripes() {
            return sum(stripes);
        }

        private int learntBy(int prince) {
            return at(learnt, prince);
        }

        private int whoLearnt(int lesson) {
            int bits = 0;
            for (int prince = 0; prince < princes; prince++) {
                if (isIn(learntBy(prince), lesson)) {
                    bits |= 1 << prince;
                }
            }
            return bits;
        }

        private int allLearnt() {
            int sum = 0;
            for (int prince = 0; prince < princes; prince++) {
                sum += Integer.bitCount(learntBy(prince));
            }
            return sum;
        }

        private void learn(int prince, int lesson) {
            put(learnt, prince, learntBy(prince) | (1 << lesson));
        }

        private void beat(int prince, int blows, int limit) {
            int boy = boyOf(prince);
            int stripesThen = stripesOf(boy) + blows;
            put(stripes, boy, stripesThen);
            setFond(prince, boy, fondAfterBlows(fondOf(prince, boy), stripesThen, limit));
        }
    }

    /** The search for ORDER. Means are whole numbers, told in parts of 10 to the LESSONS set. */
    private static final class Ordering {
        private final int[] path = new int[MOST_LESSONS];
        private final int[] best = new int[MOST_LESSONS];
        private int size = 0;
        private long whole = 1;
        private long bestMean = 0;

        private void find(Text text, Prince who, int learnt, int fond, int stripes) {
            size = 0;
            whole = 1;
            for (int lesson = 0; lesson < text.lessons; lesson++) {
                if (!isIn(learnt, lesson)) {
                    size++;
                    whole *= SURE;
                }
            }
            bestMean = NONE;
            arrange(text, who, fond, stripes, 0, learnt);
        }

        /** Goes through all orders by numbers, so that of like ones the first is kept. */
        private void arrange(Text text, Prince who, int fond, int stripes, int place, int taken) {
            if (place >= size) {
                long mean = meanFrom(text, who, fond, stripes, 0, whole);
                if (bestMean == NONE || mean < bestMean) {
                    bestMean = mean;
                    copy(path, best);
                }
                return;
            }
            for (int lesson = 0; lesson < text.lessons; lesson++) {
                if (!isIn(taken, lesson)) {
                    put(path, place, lesson);
                    arrange(text, who, fond, stripes, place + 1, taken | (1 << lesson));
                }
            }
        }

        /** The mean of BLOWS from that place of the path on, in parts of so much as is the whole there. */
        private long meanFrom(Text text, Prince who, int fond, int stripes, int place, long wholeHere) {
            if (place >= size) {
                return 0;
            }
            int lesson = at(path, place);
            int tenths = text.tenthsFor(who, fond, lesson);
            long wholeNext = wholeHere / SURE;
            long mean = 0;
            if (canBe(tenths, true)) {
                mean += tenths * meanFrom(text, who, fond, stripes, place + 1, wholeNext);
            }
            if (canBe(tenths, false)) {
                int blows = text.blowsOf(lesson);
                int stripesThen = stripes + blows;
                int fondThen = fondAfterBlows(fond, stripesThen, text.limit);
                long later = meanFrom(text, who, fondThen, stripesThen, place + 1, wholeNext);
                mean += (SURE - tenths) * (blows * wholeNext + later);
            }
            return mean;
        }

        private int lessonAt(int place) {
            return place < size ? at(best, place) : NONE;
        }
    }

    /** The search for FAULTS. */
    private static final class Blame {
        private int learnt = 0;
        private int goal = 0;
        private int sets = 0;
        private int inAll = 0;

        private void find(Text text, Prince who, int learntBefore, int fond, int stripes, int stripesThen) {
            learnt = learntBefore;
            goal = stripesThen;
            sets = 0;
            inAll = -1;
            follow(text, who, 0, fond, stripes, 0);
        }

        private void follow(Text text, Prince who, int lesson, int fond, int stripes, int failed) {
            if (lesson >= text.lessons) {
                if (stripes == goal) {
                    sets++;
                    inAll &= failed;
                }
                return;
            }
            if (isIn(learnt, lesson)) {
                follow(text, who, lesson + 1, fond, stripes, failed);
                return;
            }
            int tenths = text.tenthsFor(who, fond, lesson);
            if (canBe(tenths, true)) {
                follow(text, who, lesson + 1, fond, stripes, failed);
            }
            if (canBe(tenths, false)) {
                int stripesNext = stripes + text.blowsOf(lesson);
                int fondNext = fondAfterBlows(fond, stripesNext, text.limit);
                follow(text, who, lesson + 1, fondNext, stripesNext, failed | (1 << lesson));
            }
        }
    }
}
