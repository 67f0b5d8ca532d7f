/** Many runs of calls, each put to BeatenInstead and to the model: the answers are the same. */
public final class ModelTest {
    private static final int RUNS = 1000, CALLS = 250, DIGEST_EACH = 7;

    private static final Due due = new Due("model");

    private long seed;
    private final BeatenInstead x = new BeatenInstead();
    private final Model model = new Model();

    private ModelTest(int run) {
        seed = 1 + 7919L * run;
    }

    public static void main(String[] args) {
        for (int run = 0; run < RUNS; run++) {
            new ModelTest(run).go(run);
        }
        due.end();
    }

    /** A number of 0 to below - 1; the same in each run of the test. */
    private int below(int below) {
        seed = seed * 6364136223846793005L + 1442695040888963407L;
        return (int) ((seed >>> 33) % below);
    }

    /** Mostly a number of least to most, now and then one off them. */
    private int near(int least, int most) {
        switch (below(40)) {
            case 0:
                return least - 1;
            case 1:
                return most + 1;
            case 2:
                return below(2) == 0 ? Integer.MIN_VALUE : Integer.MAX_VALUE;
            default:
                return least + below(most - least + 1);
        }
    }

    private void go(int run) {
        if (below(10) > 0) {
            school(run);
        }
        for (int call = 0; call < CALLS; call++) {
            one("run " + run + ", call " + call + ": ");
            if (call % DIGEST_EACH == 0) {
                due.is("run " + run + ", call " + call + ": digest()", model.digest(), x.digest());
            }
        }
    }

    private void one(String at) {
        int kind = below(100);
        if (kind < 8) {
            letters(at);
        } else if (kind < 10) {
            due.is(at + "blank()", model.blank(), x.blank());
        } else if (kind < 11) {
            school(0);
        } else if (kind < 55) {
            princes(at, below(9));
        } else if (kind < 75) {
            foresight(at, below(4));
        } else {
            hearsay(at, below(8));
        }
    }

    private void letters(String at) {
        int code = below(3) == 0 ? near(32, 126) : "1234512345,,;;0".charAt(below(15));
        due.is(at + "letter(" + code + ")", model.letter(code), x.letter(code));
        due.is(at + "fault()", model.fault(), x.fault());
        if (below(2) == 0) {
            due.is(at + "school()", model.school(), x.school());
        }
    }

    /** A whole school is put on the page and read. */
    private void school(int run) {
        StringBuilder text = new StringBuilder();
        int lessons = 1 + below(5);
        for (int lesson = 0; lesson < lessons; lesson++) {
            text.append(1 + below(9)).append(1 + below(5)).append(lesson < lessons - 1 ? ',' : ';');
        }
        text.append(below(10));
        due.is("blank()", model.blank(), x.blank());
        for (int i = 0; i < text.length(); i++) {
            due.is("letter()", model.letter(text.charAt(i)), x.letter(text.charAt(i)));
        }
        due.is("school() of " + text + " in run " + run, model.school(), x.school());
        for (int prince = below(4); prince > 0; prince--) {
            int kind = below(5);
            int wit = below(10);
            due.is("prince()", model.prince(kind, wit), x.prince(kind, wit));
        }
    }

    private void princes(String at, int which) {
        int prince = near(0, 2);
        int lesson = near(0, 4);
        int boy = near(0, 2);
        boolean learns = below(3) == 0;
        switch (which) {
            case 0:
                int kind = near(0, 4);
                int wit = near(0, 9);
                due.is(at + "prince(" + kind + ", " + wit + ")", model.prince(kind, wit), x.prince(kind, wit));
                break;
            case 1:
                int what = below(2) == 0 ? near(0, 4) : near(10, 12);
                due.is(at + "about(" + prince + ", " + what + ")", model.about(prince, what), x.about(prince, what));
                break;
            case 2:
                int as = near(0, 4);
                due.is(at + "as(" + prince + ", " + as + ")", model.as(prince, as), x.as(prince, as));
                break;
            case 3:
                due.is(at + "give(" + prince + ", " + boy + ")", model.give(prince, boy), x.give(prince, boy));
                break;
            case 4:
                int v = near(0, 9);
                due.is(at + "fond(" + prince + ", " + boy + ", " + v + ")", model.fond(prince, boy, v),
                        x.fond(prince, boy, v));
                break;
            case 5:
                due.is(at + "tenths(" + prince + ", " + lesson + ")", model.tenths(prince, lesson),
                        x.tenths(prince, lesson));
                break;
            default:
                due.is(at + "teach(" + prince + ", " + lesson + ", " + learns + ")",
                        model.teach(prince, lesson, learns), x.teach(prince, lesson, learns));
        }
    }

    private void foresight(String at, int which) {
        int prince = near(0, 2);
        int lesson = near(0, 4);
        switch (which) {
            case 0:
                int ask = below(2) == 0 ? near(0, 1) : near(10, 14);
                due.is(at + "order(" + prince + ", " + ask + ")", model.order(prince, ask), x.order(prince, ask));
                break;
            case 1:
                int what = below(2) == 0 ? near(0, 1) : near(10, 12);
                due.is(at + "match(" + lesson + ", " + what + ")", model.match(lesson, what), x.match(lesson, what));
                break;
            default:
                int stripes = below(2) == 0 ? below(10) : near(0, 25);
                int of = near(0, 1);
                due.is(at + "faults(" + prince + ", " + stripes + ", " + of + ")", model.faults(prince, stripes, of),
                        x.faults(prince, stripes, of));
        }
    }

    private void hearsay(String at, int which) {
        int prince = near(0, 2);
        int lesson = near(0, 4);
        int what = near(0, 2);
        boolean learnt = below(2) == 0;
        switch (which) {
            case 0:
                due.is(at + "hear(" + prince + ", " + lesson + ", " + learnt + ")",
                        model.hear(prince, lesson, learnt), x.hear(prince, lesson, learnt));
                break;
            case 1:
                if (below(4) == 0) {
                    due.is(at + "forget()", model.forget(), x.forget());
                }
                break;
            case 2:
                due.is(at + "fondness(" + prince + ")", model.fondness(prince), x.fondness(prince));
                break;
            case 3:
                int times = near(1, 20);
                int of = below(20) == 0 ? near(0, Integer.MAX_VALUE - 1) : below(Integer.MAX_VALUE);
                due.is(at + "schools(" + times + ", " + of + ", " + what + ")", model.schools(times, of, what),
                        x.schools(times, of, what));
                break;
            case 4:
                due.is(at + "image()", model.image(), x.image());
                break;
            case 5:
                due.is(at + "restore()", model.restore(), x.restore());
                break;
            case 6:
                int count = near(0, 8);
                due.is(at + "count(" + count + ")", model.count(count), x.count(count));
                break;
            default:
                int question = near(0, 2);
                due.is(at + "lesson(" + lesson + ", " + question + ")", model.lesson(lesson, question),
                        x.lesson(lesson, question));
                due.is(at + "stripes(" + prince + ")", model.stripes(prince), x.stripes(prince));
        }
    }
}
