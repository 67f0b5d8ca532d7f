/** The terms, and how often an object is used, sentence by sentence. */
final class SentencesOfTerms {
    private static final int NONE = BeatenInstead.NONE, UNKNOWN = BeatenInstead.UNKNOWN;
    private static final int OUTSIDE = BeatenInstead.OUTSIDE, STATE = BeatenInstead.STATE, FULL = BeatenInstead.FULL;
    private static final String OF_FIVE = "91,92,93,94,95";

    private SentencesOfTerms() {
    }

    static void ask(Sentences say) {
        atMost512Calls(say);
        oneToFiveLessons(say);
        hard(say);
        blows(say);
        limit(say);
        noneAtFirst(say);
        threeBoys(say);
        threePrinces(say);
        kinds(say);
        wit(say);
        fond(say);
        boyOfHisOwnNumber(say);
        castsOfKinds(say);
        feels(say);
        tenths(say);
        failing(say);
        fonder(say);
        colder(say);
        fondAtLeastAndAtMost(say);
        learntNeedsItNoMore(say);
        orderSetsAll(say);
        orderFewestBlows(say);
        orderOfLikeOnes(say);
        matchEachAnother(say);
        matchLearntOrNot(say);
        matchOfLikeOnes(say);
        faultsFromNow(say);
        faultsSets(say);
        faultsAsCouldBe(say);
        faultsFailedInAll(say);
        heardSix(say);
        heardApart(say);
        fondness(say);
        schoolsGoOn(say);
        schoolsByADraw(say);
        schoolsTell(say);
        draws(say);
        drawsWrapAround(say);
        imageKeeps(say);
        imageKeepsWhatIsHeard(say);
        theFirstRefusal(say);
        numbersThatNameNothing(say);
        notAsTold(say);
        inNoStateForIt(say);
        noRoom(say);
        refusalsChangeNothing(say);
    }

    private static void atMost512Calls(Sentences say) {
        say.of("What it is", "An object is used for at most 512 calls after it has been made");
        BeatenInstead x = Made.school("95;9");
        x.prince(0, 0);
        for (int call = 7; call <= 511; call++) {
            say.is("call " + call, 5 * (call - 6), x.teach(0, 0, false));
        }
        say.is("call 512", 5 * 505, x.stripes(0));
    }

    private static void oneToFiveLessons(Sentences say) {
        say.of("Terms 1", "A SCHOOL is a text: one to five LESSONS (numbered from 0) with \",\" between,"
                + " each two digits:");
        for (int lessons = 1; lessons <= 5; lessons++) {
            BeatenInstead x = Made.school(OF_FIVE.substring(0, 3 * lessons - 1) + ";0");
            say.is("LESSONS", lessons, x.count(0));
            say.is("BLOWS of the first", 1, x.lesson(0, 1));
            say.is("BLOWS of the last", lessons, x.lesson(lessons - 1, 1));
            say.is("one behind the last", UNKNOWN, x.lesson(lessons, 1));
            say.is("one ahead of the first", UNKNOWN, x.lesson(-1, 1));
        }
        for (String page : new String[] {";0", "9;0", "911;0", "91,;0", "91,92,93,94,95,11"}) {
            BeatenInstead x = new BeatenInstead();
            Made.type(x, page);
            say.is("school() of " + page, STATE, x.school());
        }
    }

    /** At that place of "55;5" the characters from least to most are taken, the next ones are not. */
    private static void digit(Sentences say, int place, char least, char most) {
        for (int code = least - 1; code <= most + 1; code++) {
            StringBuilder page = new StringBuilder("55;5");
            page.setCharAt(place, (char) code);
            BeatenInstead x = new BeatenInstead();
            Made.type(x, page.toString());
            boolean fits = code >= least && code <= most;
            say.is("fault() of " + page, fits ? 4 : place, x.fault());
            say.is("school() of " + page, fits ? 1 : STATE, x.school());
            int told = place == 3 ? x.count(1) : x.lesson(0, place);
            say.is("what is told of " + page, fits ? code - '0' : place == 3 ? 0 : UNKNOWN, told);
        }
    }

    private static void hard(Sentences say) {
        say.of("Terms 1", "HARD (1 to 9)");
        digit(say, 0, '1', '9');
    }

    private static void blows(Sentences say) {
        say.of("Terms 1", "BLOWS (1 to 5)");
        digit(say, 1, '1', '5');
    }

    private static void limit(Sentences say) {
        say.of("Terms 1", "then \";\" and a digit LIMIT (0 to 9).");
        digit(say, 3, '0', '9');
    }

    private static void noneAtFirst(Sentences say) {
        say.of("Terms 1", "At first there is none.");
        BeatenInstead x = new BeatenInstead();
        say.is("LESSONS", 0, x.count(0));
        say.is("LIMIT", 0, x.count(1));
        say.is("times read", 0, x.count(7));
        say.is("lesson(0, 0)", UNKNOWN, x.lesson(0, 0));
        say.is("prince(0, 0)", STATE, x.prince(0, 0));
        say.is("image()", STATE, x.image());
    }

    private static void threeBoys(Sentences say) {
        say.of("Terms 1", "There are three BOYS (0 to 2), each without STRIPES at first.");
        BeatenInstead x = Made.school("95;0");
        for (int boy = 0; boy < 3; boy++) {
            say.is("stripes(" + boy + ")", 0, x.stripes(boy));
        }
        say.is("STRIPES of all", 0, x.count(3));
        for (int boy : Sentences.off(0, 2)) {
            say.is("stripes(" + boy + ")", UNKNOWN, x.stripes(boy));
        }
    }

    private static void threePrinces(Sentences say) {
        say.of("Terms 1", "PRINCES (3 at most, numbered) are of");
        BeatenInstead x = Made.school("95;0");
        for (int prince = 0; prince < 3; prince++) {
            int next = prince;
            say.refused("about() of the next", UNKNOWN, x, () -> x.about(next, 0));
            say.is("his number", prince, x.prince(0, 0));
            say.is("how many", prince + 1, x.count(2));
        }
        say.refused("a fourth", FULL, x, () -> x.prince(0, 0));
        say.refused("about(3, 0)", UNKNOWN, x, () -> x.about(3, 0));
    }

    private static void kinds(Sentences say) {
        say.of("Terms 1", "KINDS: 0 PRINCE, 1 PROUD, 2 CRUEL, 3 LAZY, 4 HIGH,");
        for (int kind = 0; kind <= 4; kind++) {
            BeatenInstead x = Made.school("95;0");
            x.prince(kind, 0);
            say.is("KIND", kind, x.about(0, 0));
        }
        for (int kind : Sentences.off(0, 4)) {
            BeatenInstead x = Made.school("95;0");
            say.refused("prince(" + kind + ", 0)", OUTSIDE, x, () -> x.prince(kind, 0));
        }
    }

    private static void wit(Sentences say) {
        say.of("Terms 1", "each with a WIT (0 to 9);");
        for (int kind = 0; kind <= 4; kind++) {
            for (int wit = 0; wit <= 9; wit++) {
                BeatenInstead x = Made.school("95;0");
                x.prince(kind, wit);
                say.is("WIT", wit, x.about(0, 1));
            }
        }
        for (int wit : Sentences.off(0, 9)) {
            BeatenInstead x = Made.school("95;0");
            say.refused("prince(0, " + wit + ")", OUTSIDE, x, () -> x.prince(0, wit));
        }
    }

    private static void fond(Sentences say) {
        say.of("Terms 1", "each is FOND (0 to 9) of each BOY, by 5 at first;");
        BeatenInstead x = Made.school("95;0");
        for (int prince = 0; prince < 3; prince++) {
            x.prince(4 - prince, 9 * (prince % 2));
            for (int boy = 0; boy < 3; boy++) {
                say.is("at first", 5, x.about(prince, 10 + boy));
                x.fond(prince, boy, 0);
                say.is("least", 0, x.about(prince, 10 + boy));
                x.fond(prince, boy, 9);
                say.is("most", 9, x.about(prince, 10 + boy));
            }
        }
        for (int v : Sentences.off(0, 9)) {
            say.refused("fond(2, 2, " + v + ")", OUTSIDE, x, () -> x.fond(2, 2, v));
        }
    }

    private static void boyOfHisOwnNumber(Sentences say) {
        say.of("Terms 1", "his BOY is that of his own number at first.");
        BeatenInstead x = Made.school("95;0");
        for (int prince = 0; prince < 3; prince++) {
            x.prince(0, 0);
            say.is("BOY of " + prince, prince, x.about(prince, 2));
            x.teach(prince, 0, false);
            say.is("STRIPES of that one", 5, x.stripes(prince));
        }
    }

    private static void castsOfKinds(Sentences say) {
        say.of("Terms 1", "All are PRINCES; a HIGH one is PROUD, too.");
        int[] isAlso = {0, 1, 2, 3, 1};
        for (int kind = 0; kind <= 4; kind++) {
            BeatenInstead x = Made.school("95;0");
            x.prince(kind, 0);
            for (int as = 0; as <= 4; as++) {
                boolean is = as == 0 || as == kind || as == isAlso[kind];
                say.is("as(0, " + as + ") of kind " + kind, is ? 0 : NONE, x.as(0, as));
            }
        }
    }

    private static void feels(Sentences say) {
        say.of("Terms 1", "What one FEELS is: a PRINCE as he is FOND of his BOY;");
        feelsAre(say, 0, 0, 1, 2, 3, 4, 5, 6, 7, 8, 9);
        say.of("Terms 1", "a PROUD one the same, but 0 if that is below 5;");
        feelsAre(say, 1, 0, 0, 0, 0, 0, 5, 6, 7, 8, 9);
        say.of("Terms 1", "a CRUEL one 9 less that;");
        feelsAre(say, 2, 9, 8, 7, 6, 5, 4, 3, 2, 1, 0);
        say.of("Terms 1", "a LAZY one half of it, rounded down;");
        feelsAre(say, 3, 0, 0, 1, 1, 2, 2, 3, 3, 4, 4);
        say.of("Terms 1", "a HIGH one as a PROUD one, and 2 more.");
        feelsAre(say, 4, 2, 2, 2, 2, 2, 7, 8, 9, 10, 11);
    }

    private static void feelsAre(Sentences say, int kind, int... want) {
        BeatenInstead x = Made.school("95;0");
        x.prince(kind, 0);
        x.give(0, 2);
        for (int fond = 0; fond <= 9; fond++) {
            x.fond(0, 2, fond);
            say.is("as FOND as " + fond, want[fond], x.about(0, 3));
        }
    }

    private static void tenths(Sentences say) {
        say.of("Terms 1", "LEARNING of a LESSON is as likely as WIT and what he FEELS, less HARD,"
                + " in TENTHS (0 at least, 10 at most).");
        tenthsAre(say, "91;0", 0, 0, 0, 0);
        tenthsAre(say, "91;0", 0, 0, 8, 0);
        tenthsAre(say, "91;0", 0, 0, 9, 0);
        tenthsAre(say, "91;0", 0, 1, 9, 1);
        tenthsAre(say, "11;0", 0, 9, 1, 9);
        tenthsAre(say, "11;0", 0, 9, 2, 10);
        tenthsAre(say, "11;0", 0, 9, 3, 10);
        tenthsAre(say, "11;0", 0, 9, 9, 10);
        tenthsAre(say, "11;0", 4, 9, 9, 10);
        tenthsAre(say, "91;0", 4, 9, 8, 10);
        tenthsAre(say, "91;0", 4, 9, 7, 9);
        tenthsAre(say, "11;0", 2, 0, 9, 0);
        tenthsAre(say, "11;0", 2, 0, 8, 0);
        tenthsAre(say, "11;0", 2, 0, 7, 1);
    }

    private static void tenthsAre(Sentences say, String page, int kind, int wit, int fond, int want) {
        BeatenInstead x = Made.school(page);
        x.prince(kind, wit);
        x.fond(0, 0, fond);
        String of = page + ", kind " + kind + ", wit " + wit + ", fond " + fond;
        say.is("TENTHS of " + of, want, x.tenths(0, 0));
        say.is("learning by that: " + of, want > 0 ? 1 : 0, x.teach(0, 0, true) == STATE ? 0 : 1);
    }

    private static void failing(Sentences say) {
        say.of("Terms 1", "Who fails, his BOY gets BLOWS of that LESSON, as STRIPES;");
        for (int lesson = 0; lesson < 5; lesson++) {
            BeatenInstead x = Made.school(OF_FIVE + ";0");
            x.prince(0, 0);
            x.prince(0, 0);
            x.give(0, 2);
            int blows = lesson + 1;
            say.is("failing", blows, x.teach(0, lesson, false));
            say.is("failing again", 2 * blows, x.teach(0, lesson, false));
            say.is("STRIPES of his BOY", 2 * blows, x.stripes(2));
            say.is("STRIPES of all", 2 * blows, x.count(3));
        }
        BeatenInstead x = Made.school("51;0");
        x.prince(0, 5);
        say.is("learning brings none", 0, x.teach(0, 0, true));
        say.is("STRIPES of all", 0, x.count(3));
        say.is("nor is he FONDER or COLDER", 5, x.about(0, 10));
    }

    private static void fonder(Sentences say) {
        say.of("Terms 1", "then he is FOND of that BOY by 1 more, if STRIPES of that BOY are LIMIT at most,");
        for (int limit = 1; limit <= 9; limit++) {
            BeatenInstead x = Made.school("91;" + limit);
            x.prince(0, 0);
            for (int stripes = 1; stripes <= Math.min(4, limit); stripes++) {
                x.teach(0, 0, false);
                say.is("LIMIT " + limit + ", STRIPES " + stripes, 5 + stripes, x.about(0, 10));
            }
        }
        BeatenInstead x = Made.school("93;9");
        x.prince(0, 0);
        x.prince(0, 0);
        x.give(0, 1);
        x.teach(1, 0, false);
        x.teach(1, 0, false);
        x.teach(0, 0, false);
        say.is("with what the BOY had, just the LIMIT", 6, x.about(0, 11));
        say.is("as FOND of his own as before", 5, x.about(0, 10));
        say.is("the other is as FOND as by his own failing", 7, x.about(1, 11));
    }

    private static void colder(Sentences say) {
        say.of("Terms 1", "by 2 less, if they are more");
        for (int limit = 0; limit <= 9; limit++) {
            BeatenInstead x = Made.school("91;" + limit);
            x.prince(0, 0);
            for (int stripes = 1; stripes <= limit; stripes++) {
                x.teach(0, 0, false);
            }
            x.fond(0, 0, 5);
            x.teach(0, 0, false);
            say.is("LIMIT " + limit + ", STRIPES " + (limit + 1), 3, x.about(0, 10));
        }
        BeatenInstead x = Made.school("95;4");
        x.prince(0, 0);
        x.teach(0, 0, false);
        say.is("by the first failing", 3, x.about(0, 10));
        say.is("as FOND of the others as before", 5, x.about(0, 12));
        BeatenInstead y = Made.school("93;3");
        y.prince(0, 0);
        y.prince(0, 0);
        y.teach(1, 0, false);
        y.give(0, 1);
        y.teach(0, 0, false);
        say.is("by what the BOY had", 3, y.about(0, 11));
        say.is("not of his own", 5, y.about(0, 10));
    }

    private static void fondAtLeastAndAtMost(Sentences say) {
        say.of("Terms 1", "(0 at least, 9 at most).");
        int[] more = {1, 2, 3, 4, 5, 6, 7, 8, 9, 9};
        int[] less = {0, 0, 0, 1, 2, 3, 4, 5, 6, 7};
        for (int fond = 0; fond <= 9; fond++) {
            BeatenInstead x = Made.school("91;1");
            x.prince(0, 0);
            x.fond(0, 0, fond);
            x.teach(0, 0, false);
            say.is("FONDER than " + fond, more[fond], x.about(0, 10));
            x.fond(0, 0, fond);
            x.teach(0, 0, false);
            say.is("COLDER than " + fond, less[fond], x.about(0, 10));
        }
    }

    private static void learntNeedsItNoMore(Sentences say) {
        say.of("Terms 1", "Who has LEARNT a LESSON needs it no more.");
        BeatenInstead x = Made.school("51,11;0");
        x.prince(0, 5);
        x.teach(0, 0, true);
        say.refused("learning it again", STATE, x, () -> x.teach(0, 0, true));
        say.refused("failing it", STATE, x, () -> x.teach(0, 0, false));
        say.is("the other LESSON is set first", 1, x.order(0, 10));
        say.is("it alone", NONE, x.order(0, 11));
        x.teach(0, 1, true);
        say.is("none is set", NONE, x.order(0, 10));
        say.is("none is failed", 1, x.faults(0, 0, 0));
        say.is("none is drawn", 77, x.schools(20, 77, 2));
        x.prince(0, 5);
        say.is("another one needs it", 1, x.teach(1, 0, false));
    }

    private static void orderSetsAll(Sentences say) {
        say.of("Terms 2", "ORDER for one: all LESSONS that he has not LEARNT are set, each once,"
                + " whether it is failed or not,");
        BeatenInstead x = Made.school("95,95,95,95,95;0");
        x.prince(0, 4);
        x.fond(0, 0, 6);
        say.is("MEAN of five, 1 in 10 for the first, above", 488889, x.order(0, 0));
        say.is("MEAN below", 20000, x.order(0, 1));
        for (int place = 0; place < 5; place++) {
            say.is("LESSON at " + place, place, x.order(0, 10 + place));
        }
        BeatenInstead y = Made.school("11,55;0");
        y.prince(0, 6);
        say.is("MEAN with one that is LEARNT for certain, above", 2, y.order(0, 0));
        say.is("MEAN below", 1, y.order(0, 1));
        say.is("of like ones the first, which may fail later", 0, y.order(0, 10));
        x.teach(0, 2, true);
        say.is("the third of four", 3, x.order(0, 12));
        say.is("the fifth of four", NONE, x.order(0, 14));
        for (int lesson : new int[] {0, 1, 3, 4}) {
            x.teach(0, lesson, true);
        }
        say.is("the first of none", NONE, x.order(0, 10));
        say.is("MEAN of none", 0, x.order(0, 0));
        say.is("MEAN of none, below", 1, x.order(0, 1));
    }

    private static void orderFewestBlows(Sentences say) {
        say.of("Terms 2", "in the order by which BLOWS are fewest on the MEAN (nobody else being taught):");
        BeatenInstead x = Made.school("91,55;9");
        x.prince(0, 5);
        say.is("the hard one first, which makes him FONDER", 0, x.order(0, 10));
        BeatenInstead y = Made.school("91,55;0");
        y.prince(0, 5);
        say.is("the hard one last, which makes him COLDER", 1, y.order(0, 10));
        BeatenInstead z = Made.school("91,55;9");
        z.prince(0, 5);
        z.prince(0, 0);
        z.give(1, 0);
        say.is("another one who has that BOY, too, is not taught", x.order(0, 0), z.order(0, 0));
        say.is("MEAN below", x.order(0, 1), z.order(0, 1));
        z.teach(1, 1, false);
        z.teach(1, 1, false);
        say.is("but what he brought on that BOY counts", 1, z.order(0, 10));
    }

    private static void orderOfLikeOnes(Sentences say) {
        say.of("Terms 2", "of like ones the first by numbers; that MEAN.");
        String[] pages = {"95,95,95,95,95;0", "11,11,11;0", "55,55,55,55;9"};
        int[] wits = {0, 9, 0};
        for (int i = 0; i < pages.length; i++) {
            BeatenInstead x = Made.school(pages[i]);
            x.prince(0, wits[i]);
            for (int place = 0; place < x.count(0); place++) {
                say.is("LESSON at " + place + " of " + pages[i], place, x.order(0, 10 + place));
            }
        }
        BeatenInstead x = Made.school("91,55,91,55;9");
        x.prince(0, 5);
        int[] want = {0, 2, 1, 3};
        for (int place = 0; place < 4; place++) {
            say.is("two like ones and two like ones, at " + place, want[place], x.order(0, 10 + place));
        }
    }

    private static void matchEachAnother(Sentences say) {
        say.of("Terms 2", "MATCH for a LESSON: which BOY for which PRINCE, each another one,"
                + " so that the MEAN of BLOWS is least,");
        BeatenInstead x = Made.school("55;0");
        for (int prince = 0; prince < 3; prince++) {
            x.prince(0, 0);
            x.give(prince, 2);
            x.fond(prince, 2, 9);
        }
        x.fond(1, 0, 8);
        x.fond(2, 1, 6);
        int[] want = {2, 0, 1};
        for (int prince = 0; prince < 3; prince++) {
            say.is("BOY of " + prince, want[prince], x.match(0, 10 + prince));
            say.is("whom he has stays", 2, x.about(prince, 2));
        }
        say.is("MEAN above", 11, x.match(0, 0));
        say.is("MEAN below", 1, x.match(0, 1));
    }

    private static void matchLearntOrNot(Sentences say) {
        say.of("Terms 2", "if that LESSON were set to each of them (whether LEARNT or not;"
                + " as FOND as he is of that BOY):");
        BeatenInstead x = Made.school("55;9");
        x.prince(0, 5);
        x.fond(0, 1, 6);
        say.is("not LEARNT: MEAN", 2, x.match(0, 0));
        say.is("not LEARNT: BOY", 1, x.match(0, 10));
        x.teach(0, 0, true);
        say.is("LEARNT: MEAN", 2, x.match(0, 0));
        say.is("LEARNT: BOY", 1, x.match(0, 10));
        x.prince(0, 5);
        x.teach(1, 0, false);
        say.is("STRIPES do not count, but how FOND he is since: MEAN above", 9, x.match(0, 0));
        say.is("MEAN below", 2, x.match(0, 1));
        say.is("of like ones the first", 0, x.match(0, 10));
    }

    private static void matchOfLikeOnes(Sentences say) {
        say.of("Terms 2", "of like ones the first by numbers (the BOY of PRINCE 0 first); that MEAN.");
        BeatenInstead x = Made.school("55;0");
        for (int prince = 0; prince < 3; prince++) {
            x.prince(0, 0);
            for (int of = 0; of < 3; of++) {
                say.is("BOY of " + of + " of " + (prince + 1), of <= prince ? of : NONE, x.match(0, 10 + of));
            }
        }
        x.fond(0, 0, 6);
        x.fond(0, 1, 6);
        x.fond(1, 0, 6);
        x.fond(1, 1, 6);
        say.is("0 and 1, or 1 and 0", 0, x.match(0, 10));
        x.fond(2, 0, 7);
        x.fond(2, 2, 6);
        say.is("like ones with 0 and with 1: of PRINCE 0", 0, x.match(0, 10));
        say.is("of PRINCE 1", 1, x.match(0, 11));
        say.is("of PRINCE 2", 2, x.match(0, 12));
        x.fond(2, 0, 8);
        say.is("no longer like ones: of PRINCE 0", 1, x.match(0, 10));
        say.is("of PRINCE 1", 2, x.match(0, 11));
        say.is("of PRINCE 2", 0, x.match(0, 12));
    }

    private static void faultsFromNow(Sentences say) {
        say.of("Terms 3", "FAULTS for one and so many STRIPES more: all LESSONS that he has not LEARNT were set,"
                + " by number, each once, from now:");
        BeatenInstead x = Made.school("91,91,92;2");
        x.prince(0, 4);
        say.is("none: the first must be failed", 0, x.faults(0, 0, 0));
        say.is("the first, then FONDER, one may be LEARNT", 1, x.faults(0, 1, 0));
        say.is("all, each once", 1, x.faults(0, 4, 0));
        say.is("more than all", 0, x.faults(0, 5, 0));
        x.teach(0, 0, false);
        say.is("from now, FONDER: each can be LEARNT", 1, x.faults(0, 0, 0));
        x.teach(0, 0, true);
        say.is("without the one that he has LEARNT", 1, x.faults(0, 3, 0));
        say.is("more than are left", 0, x.faults(0, 4, 0));
    }

    private static void faultsSets(Sentences say) {
        say.of("Terms 3", "for how many sets of LESSONS (those that were failed)"
                + " his BOY has just so many STRIPES more,");
        BeatenInstead x = Made.school("51,51,51,51,51;9");
        x.prince(0, 5);
        x.prince(0, 0);
        x.give(1, 0);
        x.teach(1, 0, false);
        int[] want = {1, 5, 10, 10, 5, 1, 0};
        for (int stripes = 0; stripes < want.length; stripes++) {
            say.is("just " + stripes + " more than he has", want[stripes], x.faults(0, stripes, 0));
        }
    }

    private static void faultsAsCouldBe(Sentences say) {
        say.of("Terms 3", "each LESSON being LEARNT or failed as it could be (by TENTHS above 0, or below 10,"
                + " as it was just then);");
        for (int wit = 0; wit <= 9; wit++) {
            for (int fond : new int[] {0, 1, 4, 5, 9}) {
                BeatenInstead x = Made.school("41;9");
                x.prince(0, wit);
                x.fond(0, 0, fond);
                int tenths = Math.max(0, Math.min(10, wit + fond - 4));
                say.is("LEARNT by " + tenths, tenths > 0 ? 1 : 0, x.faults(0, 0, 0));
                say.is("failed by " + tenths, tenths < 10 ? 1 : 0, x.faults(0, 1, 0));
            }
        }
        BeatenInstead x = Made.school("91,91;9");
        x.prince(0, 4);
        int[] from0 = {0, 1, 1};
        for (int stripes = 0; stripes <= 2; stripes++) {
            say.is("above 0 by failing the first: " + stripes, from0[stripes], x.faults(0, stripes, 0));
        }
        BeatenInstead y = Made.school("11,11;9");
        y.prince(0, 5);
        int[] from9 = {1, 2, 0};
        for (int stripes = 0; stripes <= 2; stripes++) {
            say.is("not below 10 by failing the first: " + stripes, from9[stripes], y.faults(0, stripes, 0));
        }
    }

    private static void faultsFailedInAll(Sentences say) {
        say.of("Terms 3", "which LESSONS are failed in all these, as bits.");
        BeatenInstead x = Made.school("51,51,52;9");
        x.prince(0, 5);
        int[] want = {0, 0, 0, 4, 7, NONE};
        for (int stripes = 0; stripes < want.length; stripes++) {
            say.is("of those with " + stripes, want[stripes], x.faults(0, stripes, 1));
        }
    }

    private static void heardSix(Sentences say) {
        say.of("Terms 3", "HEARD (6 at most):");
        BeatenInstead x = Made.school("51;0");
        x.prince(0, 5);
        x.prince(0, 5);
        for (int heard = 1; heard <= 6; heard++) {
            say.is("how much", heard, x.hear(heard % 2, 0, heard % 3 == 0));
        }
        say.refused("a seventh", FULL, x, () -> x.hear(0, 0, true));
        say.refused("a seventh, of another", FULL, x, () -> x.hear(1, 0, false));
    }

    private static void heardApart(Sentences say) {
        say.of("Terms 3", "of one PRINCE that he LEARNT a LESSON, or failed it, as he is now (each told apart).");
        BeatenInstead x = Made.school("51;0");
        x.prince(0, 5);
        x.hear(0, 0, true);
        x.hear(0, 0, false);
        say.is("the same LESSON LEARNT and failed", 0x3fe, x.fondness(0));
        x.hear(0, 0, false);
        say.is("failed twice: he is no COLDER by the first", 0x3fe, x.fondness(0));
        say.is("it is not set to him", 0, x.stripes(0));
        x.prince(0, 0);
        x.hear(1, 0, true);
        say.is("of another one", 0x3fe, x.fondness(0));
        say.is("the other one's own", 0x3c0, x.fondness(1));
    }

    private static void fondness(Sentences say) {
        say.of("Terms 3", "FONDNESS of one: by how much he can be FOND of his BOY so that all that is HEARD of him"
                + " could be (by TENTHS above 0; below 10): as bits.");
        for (int wit = 0; wit <= 9; wit++) {
            int learns = 0;
            int fails = 0;
            for (int fond = 0; fond <= 9; fond++) {
                learns += wit + fond - 5 > 0 ? 1 << fond : 0;
                fails += wit + fond - 5 < 10 ? 1 << fond : 0;
            }
            BeatenInstead x = Made.school("51;0");
            x.prince(0, wit);
            say.is("of nothing", 1023, x.fondness(0));
            x.hear(0, 0, false);
            say.is("that he failed, with WIT " + wit, fails, x.fondness(0));
            x.hear(0, 0, true);
            say.is("and LEARNT", fails & learns, x.fondness(0));
            x.forget();
            x.hear(0, 0, true);
            say.is("that he LEARNT, with WIT " + wit, learns, x.fondness(0));
        }
    }

    private static void schoolsGoOn(Sentences say) {
        say.of("Terms 3", "SCHOOLS by a SEED, as they would be: so many times, for each PRINCE, by number,"
                + " all LESSONS that he has not LEARNT, by number:");
        BeatenInstead x = Made.school("91,92;0");
        for (int prince = 0; prince < 3; prince++) {
            x.prince(0, 0);
            for (int times : new int[] {1, 2, 20}) {
                say.is("BLOWS of all failing " + times + " times", 3 * (prince + 1) * times, x.schools(times, 5, 0));
                say.is("DRAWS of that", seedBehind(5, 2 * (prince + 1) * times), x.schools(times, 5, 2));
            }
        }
        say.is("none is set", 0, x.count(3));
        say.is("none is COLDER", 5, x.about(0, 10));
    }

    private static void schoolsByADraw(Sentences say) {
        say.of("Terms 3", "by a DRAW of 10 below TENTHS he LEARNS it, else he fails (all goes on from one to the next):");
        int[] seedOfDraw = {0, 11, 9, 10, 7, 5, 6, 3, 1, 29};
        for (int draw = 0; draw <= 9; draw++) {
            for (int tenths = 0; tenths <= 9; tenths++) {
                BeatenInstead x = Made.school("51;0");
                x.prince(0, tenths);
                int learns = draw < tenths ? 1 : 0;
                say.is("LEARNT: " + draw + " below " + tenths, learns, x.schools(1, seedOfDraw[draw], 1));
                say.is("BLOWS: " + draw + " below " + tenths, 1 - learns, x.schools(1, seedOfDraw[draw], 0));
            }
            BeatenInstead x = Made.school("11;0");
            x.prince(4, 9);
            say.is("LEARNT for certain: " + draw, 1, x.schools(1, seedOfDraw[draw], 1));
        }
        BeatenInstead x = Made.school("51;1");
        x.prince(0, 8);
        say.is("8 not below 8, then 8 below 9: LEARNT", 1, x.schools(2, 12345, 1));
        BeatenInstead y = Made.school("51;0");
        y.prince(0, 8);
        say.is("8 not below 8, then 8 not below 6: LEARNT", 0, y.schools(2, 12345, 1));
    }

    private static void schoolsTell(Sentences say) {
        say.of("Terms 3", "how many BLOWS, how many are LEARNT in all then.");
        BeatenInstead x = Made.school("55,11;9");
        x.prince(0, 0);
        x.prince(4, 9);
        x.prince(4, 9);
        x.teach(0, 0, false);
        x.fond(0, 0, 1);
        x.teach(1, 0, true);
        say.is("BLOWS that would come, not those that came", 6, x.schools(1, 0, 0));
        say.is("LEARNT, with what was LEARNT before", 4, x.schools(1, 0, 1));
    }

    /** The SEED behind so many DRAWS, by the document's words. */
    private static int seedBehind(int seed, int draws) {
        long then = seed;
        for (int draw = 0; draw < draws; draw++) {
            then = (then * 1103515245L + 12345L) % 2147483648L;
        }
        return (int) then;
    }

    private static void draws(Sentences say) {
        say.of("Terms 3", "DRAWS: the next SEED each time: 1103515245 times it and 12345, its rest by 2 to the 31;");
        BeatenInstead x = Made.school("91;0");
        x.prince(0, 0);
        for (int seed : new int[] {0, 1, 2, 12345, 65535, 65536, 1 << 30, Integer.MAX_VALUE - 1, Integer.MAX_VALUE}) {
            for (int times : new int[] {1, 2, 3, 20}) {
                say.is("SEED " + seed + " behind " + times, seedBehind(seed, times), x.schools(times, seed, 2));
            }
        }
        say.is("SEED behind the greatest", 1043980748, x.schools(1, Integer.MAX_VALUE, 2));
        say.is("the least SEED is behind this", 0, x.schools(1, 2088216195, 2));
        say.is("the greatest SEED is behind this", Integer.MAX_VALUE, x.schools(1, 230538014, 2));
        say.is("behind the least", 12345, x.schools(2, 2088216195, 2));
        say.is("behind the greatest", 1043980748, x.schools(2, 230538014, 2));
    }

    /** The greatest SEED's DRAW is 32767's rest by 10, which is 7; the least one's is 0. */
    private static void drawsWrapAround(Sentences say) {
        say.of("Terms 3", "then that by 65536 (rounded down), its rest.");
        BeatenInstead x = Made.school("51;0");
        x.prince(0, 7);
        say.is("7 is not below 7", 0, x.schools(1, 230538014, 1));
        BeatenInstead y = Made.school("51;0");
        y.prince(0, 8);
        say.is("7 is below 8", 1, y.schools(1, 230538014, 1));
        BeatenInstead z = Made.school("51;0");
        z.prince(0, 1);
        say.is("the least one's DRAW is below 1", 1, z.schools(1, 2088216195, 1));
        z.fond(0, 0, 4);
        say.is("but not below 0", 0, z.schools(1, 2088216195, 1));
        z.fond(0, 0, 5);
        say.is("12345 by 65536 is 0", 1, z.schools(1, 0, 1));
    }

    private static void imageKeeps(Sentences say) {
        say.of("Terms 3", "An IMAGE keeps how many PRINCES there are (those that come since are gone by restore()),"
                + " how FOND each is of whom, their BOYS, what they have LEARNT, STRIPES, HEARD.");
        BeatenInstead x = Made.school("51,91;9");
        x.image();
        x.prince(0, 0);
        x.hear(0, 0, true);
        say.is("restore() of nobody", 0, x.restore());
        say.is("PRINCES", 0, x.count(2));
        say.is("HEARD", 0, x.count(5));
        say.is("the next one's number", 0, x.prince(2, 9));
        x.teach(0, 0, true);
        x.teach(0, 1, false);
        x.fond(0, 1, 0);
        x.give(0, 2);
        for (int heard = 0; heard < 6; heard++) {
            x.hear(0, 1, true);
        }
        x.image();
        long before = x.digest();
        x.prince(0, 0);
        x.prince(4, 4);
        x.fond(0, 1, 9);
        x.fond(0, 2, 9);
        x.give(0, 1);
        x.teach(0, 1, false);
        x.teach(1, 0, false);
        x.forget();
        x.hear(1, 1, true);
        say.is("restore()", 1, x.restore());
        say.is("digest(), as it was", before, x.digest());
        say.refused("about() of one who came since", UNKNOWN, x, () -> x.about(1, 0));
        say.refused("about() of another who came since", UNKNOWN, x, () -> x.about(2, 0));
        say.is("his number is another one's", 1, x.prince(3, 1));
        say.is("who is of his own kind", 3, x.about(1, 0));
        say.is("as FOND as at first", 5, x.about(1, 11));
        say.is("and there is room for a third", 2, x.prince(3, 1));
        say.refused("a fourth", FULL, x, () -> x.prince(3, 1));
    }

    /** Since the IMAGE it is HEARD of another PRINCE, of another LESSON, or that he failed. */
    private static void imageKeepsWhatIsHeard(Sentences say) {
        say.of("Terms 3", "what they have LEARNT, STRIPES, HEARD.");
        int[] prince = {1, 0, 0};
        int[] lesson = {0, 1, 0};
        for (int since = 0; since < 3; since++) {
            BeatenInstead x = Made.school("51,11;9");
            x.prince(0, 3);
            x.prince(0, 3);
            x.hear(0, 0, true);
            x.image();
            x.forget();
            x.hear(prince[since], lesson[since], since != 2);
            say.is("FONDNESS of 0 since", 1023, x.fondness(0));
            x.restore();
            say.is("FONDNESS of 0, as it was", 0x3f8, x.fondness(0));
            say.is("FONDNESS of 1, as it was", 1023, x.fondness(1));
        }
    }

    private static void theFirstRefusal(Sentences say) {
        say.of("Terms 3", "Refusals, of several the first as told by each call:");
        BeatenInstead none = new BeatenInstead();
        say.refused("OUTSIDE, STATE: prince(5, 0)", OUTSIDE, none, () -> none.prince(5, 0));
        say.refused("OUTSIDE, STATE: prince(0, 10)", OUTSIDE, none, () -> none.prince(0, 10));
        say.refused("OUTSIDE, STATE: schools(21, 0, 0)", OUTSIDE, none, () -> none.schools(21, 0, 0));
        say.refused("OUTSIDE, STATE: schools(1, -1, 0)", OUTSIDE, none, () -> none.schools(1, -1, 0));
        say.refused("OUTSIDE, STATE: schools(1, 0, 3)", OUTSIDE, none, () -> none.schools(1, 0, 3));
        say.refused("UNKNOWN, OUTSIDE: lesson(0, 3)", UNKNOWN, none, () -> none.lesson(0, 3));
        say.refused("UNKNOWN, OUTSIDE: match(0, 3)", UNKNOWN, none, () -> none.match(0, 3));
        BeatenInstead x = inEachStateFull();
        say.refused("OUTSIDE, FULL: letter(127)", OUTSIDE, x, () -> x.letter(127));
        say.refused("OUTSIDE, FULL: prince(5, 0)", OUTSIDE, x, () -> x.prince(5, 0));
        say.refused("OUTSIDE, FULL: prince(0, 10)", OUTSIDE, x, () -> x.prince(0, 10));
        say.refused("UNKNOWN, OUTSIDE: lesson(2, 3)", UNKNOWN, x, () -> x.lesson(2, 3));
        say.refused("UNKNOWN, OUTSIDE: about(3, 5)", UNKNOWN, x, () -> x.about(3, 5));
        say.refused("UNKNOWN, OUTSIDE: as(3, 5)", UNKNOWN, x, () -> x.as(3, 5));
        say.refused("UNKNOWN, OUTSIDE: fond(3, 0, 10)", UNKNOWN, x, () -> x.fond(3, 0, 10));
        say.refused("UNKNOWN, OUTSIDE: fond(0, 3, 10)", UNKNOWN, x, () -> x.fond(0, 3, 10));
        say.refused("UNKNOWN, OUTSIDE, STATE: order(3, 5)", UNKNOWN, x, () -> x.order(3, 5));
        say.refused("UNKNOWN, STATE: order(3, 0)", UNKNOWN, x, () -> x.order(3, 0));
        say.refused("OUTSIDE, STATE: order(0, 5)", OUTSIDE, x, () -> x.order(0, 5));
        say.refused("UNKNOWN, OUTSIDE: match(2, 5)", UNKNOWN, x, () -> x.match(2, 5));
        say.refused("UNKNOWN, OUTSIDE: faults(3, 26, 0)", UNKNOWN, x, () -> x.faults(3, 26, 0));
        say.refused("UNKNOWN, OUTSIDE: faults(3, 0, 2)", UNKNOWN, x, () -> x.faults(3, 0, 2));
        say.refused("UNKNOWN, FULL: hear(3, 0, true)", UNKNOWN, x, () -> x.hear(3, 0, true));
        say.refused("UNKNOWN, FULL: hear(0, 2, true)", UNKNOWN, x, () -> x.hear(0, 2, true));
    }

    /** There is no room for anything, order() was done as often as can be, PRINCE 0 has LEARNT LESSON 0. */
    private static BeatenInstead inEachStateFull() {
        BeatenInstead x = Made.school("51,95;0");
        for (int prince = 0; prince < 3; prince++) {
            x.prince(0, 5);
        }
        x.teach(0, 0, true);
        x.teach(0, 1, false);
        for (int time = 0; time < 20; time++) {
            x.order(0, 0);
            x.hear(0, 0, true);
        }
        Made.type(x, "123456789012345678");
        return x;
    }

    private static void numbersThatNameNothing(Sentences say) {
        say.of("Terms 3", "UNKNOWN (a number names nothing),");
        BeatenInstead x = inEachStateFull();
        for (int number : Sentences.off(0, 1)) {
            say.refused("lesson(" + number + ", 0)", UNKNOWN, x, () -> x.lesson(number, 0));
            say.refused("tenths(0, " + number + ")", UNKNOWN, x, () -> x.tenths(0, number));
        }
        for (int number : Sentences.off(0, 2)) {
            say.refused("stripes(" + number + ")", UNKNOWN, x, () -> x.stripes(number));
            say.refused("give(0, " + number + ")", UNKNOWN, x, () -> x.give(0, number));
            say.refused("fondness(" + number + ")", UNKNOWN, x, () -> x.fondness(number));
        }
    }

    private static void notAsTold(Sentences say) {
        say.of("Terms 3", "OUTSIDE (it is not as told),");
        BeatenInstead x = inEachStateFull();
        for (int what : Sentences.off(0, 2)) {
            say.refused("lesson(0, " + what + ")", OUTSIDE, x, () -> x.lesson(0, what));
            say.refused("schools(1, 0, " + what + ")", OUTSIDE, x, () -> x.schools(1, 0, what));
        }
        for (int what : Sentences.off(0, 8)) {
            say.refused("count(" + what + ")", OUTSIDE, x, () -> x.count(what));
        }
    }

    private static void inNoStateForIt(Sentences say) {
        say.of("Terms 3", "STATE (as told),");
        BeatenInstead x = inEachStateFull();
        say.refused("school() of no SCHOOL", STATE, x, x::school);
        say.refused("order() once more", STATE, x, () -> x.order(0, 0));
        say.refused("teach() of what is LEARNT", STATE, x, () -> x.teach(0, 0, false));
        say.refused("teach() of what can't be LEARNT", STATE, x, () -> x.teach(0, 1, true));
        say.refused("restore() of no IMAGE", STATE, x, x::restore);
    }

    private static void noRoom(Sentences say) {
        say.of("Terms 3", "FULL;");
        BeatenInstead x = inEachStateFull();
        say.refused("letter(65)", FULL, x, () -> x.letter(65));
        say.refused("prince(0, 0)", FULL, x, () -> x.prince(0, 0));
        say.refused("hear(0, 0, true)", FULL, x, () -> x.hear(0, 0, true));
    }

    private static void refusalsChangeNothing(Sentences say) {
        say.of("Terms 3", "they change nothing.");
        BeatenInstead x = inEachStateFull();
        x.image();
        long before = x.digest();
        x.letter(65);
        x.letter(127);
        x.school();
        x.prince(0, 0);
        x.prince(-1, 0);
        x.give(0, 3);
        x.fond(0, 0, 10);
        x.fond(0, 3, 1);
        x.teach(0, 0, true);
        x.teach(0, 1, true);
        x.teach(0, 2, false);
        x.order(0, 0);
        x.hear(0, 0, false);
        x.schools(21, 0, 0);
        say.is("digest()", before, x.digest());
        say.is("restore() of the IMAGE", 5, x.restore());
        say.is("digest() behind it", before, x.digest());
        say.is("FONDNESS, too", 0x3fe, x.fondness(0));
    }
}
