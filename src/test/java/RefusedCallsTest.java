import java.util.LinkedHashMap;
import java.util.Map;

/**
 * "A call that is refused changes nothing." Each call that is refused, in each state in which it is,
 * is made on one of two objects that are alike otherwise; whatever is called later, both answer the
 * same. So it is for questions too, which change nothing whether or not there is an answer.
 */
public final class RefusedCallsTest {
    private static final Checks CHECKS = new Checks();
    private static final int NONE = PoliteGatherer.NONE;
    /** As many pages as the busy web has, and the small one: other numbers are no pages there. */
    private static final int BUSY_PAGES = 12;
    private static final int SMALL_PAGES = 3;

    public static void main(String[] args) {
        newObject();
        smallWeb();
        fullWeb();
        Map<String, Run.Part> gatherings = gatherings();
        gatherings.forEach(RefusedCallsTest::underWay);
        gatherings.forEach(RefusedCallsTest::stopped);
        CHECKS.end();
    }

    private static void newObject() {
        Run.Part past = x -> { };
        String state = "a new object";
        outOfRange(0).forEach((name, calls) -> alike(state, name, past, calls));
        withoutGathering().forEach((name, calls) -> alike(state, name, past, calls));
        beginsRefused("without first pages").forEach((name, calls) -> alike(state, name, past, calls));
        alike(state, "questions", past, RefusedCallsTest::questions);
    }

    private static void smallWeb() {
        Run.Part past = RefusedCallsTest::buildSmallWeb;
        String state = "a small web";
        outOfRange(SMALL_PAGES).forEach((name, calls) -> alike(state, name, past, calls));
        withoutGathering().forEach((name, calls) -> alike(state, name, past, calls));
        beginsRefused("without first pages").forEach((name, calls) -> alike(state, name, past, calls));
        alike(state, "pages that are there", past, x -> {
            x.page(0, 12).is(NONE);
            x.page(0, 1).is(NONE);
            x.page(5, 12).is(NONE);
        });
        alike(state, "questions", past, RefusedCallsTest::questions);
    }

    private static void fullWeb() {
        Run.Part past = RefusedCallsTest::buildFullWeb;
        String state = "a full web";
        outOfRange(32).forEach((name, calls) -> alike(state, name, past, calls));
        withoutGathering().forEach((name, calls) -> alike(state, name, past, calls));
        alike(state, "a 33rd page", past, x -> {
            x.page(1, 999).is(NONE);
            x.page(0, 1).is(NONE);
        });
        alike(state, "a 9th word", past, x -> {
            x.write(0, 0).is(false);
            x.write(0, 25).is(false);
            x.write(31, 9).is(false);
        });
        alike(state, "a 6th link", past, x -> {
            x.link(0, 0).is(false);
            x.link(0, 31).is(false);
            x.link(31, 1).is(false);
        });
        alike(state, "a 5th rule", past, x -> {
            x.rule(0, 0, false).is(false);
            x.rule(0, 1, true).is(false);
            x.rule(5, 999999, false).is(false);
        });
        alike(state, "a 7th first page", past, x -> {
            x.first(0).is(false);
            x.first(31).is(false);
            x.first(20).is(false);
        });
        alike(state, "questions", past, RefusedCallsTest::questions);
    }

    private static void underWay(String state, Run.Part past) {
        outOfRange(BUSY_PAGES).forEach((name, calls) -> alike(state, name, past, calls));
        changesOfTheWeb().forEach((name, calls) -> alike(state, name + " under way", past, calls));
        beginsRefused("under way").forEach((name, calls) -> alike(state, name, past, calls));
        alike(state, "questions", past, RefusedCallsTest::questions);
    }

    private static void stopped(String state, Run.Part past) {
        Run.Part stopped = x -> {
            past.on(x);
            x.stop().is(true);
        };
        withoutGathering().forEach((name, calls) -> alike(state + ", stopped", name, stopped, calls));
        alike(state + ", stopped", "questions", stopped, RefusedCallsTest::questions);
    }

    private static void alike(String state, String name, Run.Part past, Run.Part calls) {
        Twins.stayAlike(CHECKS, state + ": " + name, past, calls);
    }

    private static void buildSmallWeb(Run x) {
        x.page(0, 1).is(0);
        x.page(0, 12).is(1);
        x.page(5, 12).is(2);
        x.write(0, 0).is(true);
        x.write(1, 25).is(true);
        x.link(0, 1).is(true);
        x.link(1, 2).is(true);
        x.move(2, 1).is(true);
        x.rule(0, 12, false).is(true);
    }

    /** Pages 0 and 31 have full bodies and links, hosts 0 and 5 all their rules. */
    private static void buildFullWeb(Run x) {
        for (int i = 0; i < 32; i++) {
            x.page(i < 16 ? 0 : 5, i + 1).is(i);
        }
        for (int i = 0; i < 8; i++) {
            x.write(0, i).is(true);
            x.write(31, 25 - i).is(true);
        }
        for (int i = 0; i < 5; i++) {
            x.link(0, i + 1).is(true);
            x.link(31, 10).is(true);
        }
        for (int i = 0; i < 4; i++) {
            x.rule(0, 3 + i, false).is(true);
            x.rule(5, 20 + i, i % 2 == 0).is(true);
        }
        for (int i = 0; i < 6; i++) {
            x.first(i % 2 == 0 ? 0 : 31).is(true);
        }
    }

    /**
     * Of all kinds: what moved, also farther than two hops, what is gone, what is barred, pages with
     * the same body, and pages that are deeper than two links.
     */
    private static void buildBusyWeb(Run x) {
        for (int i = 0; i < BUSY_PAGES; i++) {
            x.page(i % 3, 10 + i).is(i);
        }
        for (int i = 0; i < BUSY_PAGES; i++) {
            x.write(i, i % 5).is(true);
            x.link(i, (2 * i + 1) % BUSY_PAGES).is(true);
            x.link(i, (2 * i + 2) % BUSY_PAGES).is(true);
        }
        x.move(3, 9).is(true);
        x.move(5, 7).is(true);
        x.move(7, 8).is(true);
        x.move(8, 10).is(true);
        x.drop(4).is(true);
        x.rule(0, 16, false).is(true);
        x.first(0).is(true);
        x.first(11).is(true);
    }

    private static Map<String, Run.Part> gatherings() {
        Map<String, Run.Part> states = new LinkedHashMap<>();
        states.put("just begun", x -> beginBusyWeb(x));
        states.put("between marks", x -> {
            beginBusyWeb(x);
            x.work(4).is(4);
            x.waiting().is(4);
        });
        states.put("just behind a mark", x -> {
            beginBusyWeb(x);
            x.work(6).is(7);
            x.waiting().is(2);
        });
        states.put("with an empty queue", x -> {
            beginBusyWeb(x);
            x.work(10).is(10);
            x.waiting().is(0);
        });
        states.put("after a crash", x -> {
            beginBusyWeb(x);
            x.work(5).is(6);
            x.crash().is(2);
        });
        return states;
    }

    /** Its entries are 0, 11, 1, 2, 3, 4, 5 and 6; a mark is set at every third. */
    private static void beginBusyWeb(Run x) {
        buildBusyWeb(x);
        x.begin(2, 2, 4, 3).is(true);
        x.waiting().is(2);
    }

    /** Calls with an argument that is out of range; refused in every state. */
    private static Map<String, Run.Part> outOfRange(int pages) {
        Map<String, Run.Part> calls = new LinkedHashMap<>();
        calls.put("page, host out of range", x -> {
            for (int host : Outside.of(0, 5)) {
                x.page(host, 777).is(NONE);
            }
        });
        calls.put("page, path out of range", x -> {
            for (int path : Outside.of(1, 999999)) {
                x.page(4, path).is(NONE);
            }
        });
        calls.put("write, no page", x -> {
            for (int p : Outside.of(0, pages - 1)) {
                x.write(p, 3).is(false);
            }
        });
        calls.put("write, no word", x -> {
            for (int word : Outside.of(0, 25)) {
                x.write(pages - 1, word).is(false);
            }
        });
        calls.put("link, no page", x -> {
            for (int p : Outside.of(0, pages - 1)) {
                x.link(p, 0).is(false);
                x.link(1, p).is(false);
            }
        });
        calls.put("move, no page", x -> {
            for (int p : Outside.of(0, pages - 1)) {
                x.move(p, 0).is(false);
                x.move(0, p).is(false);
            }
        });
        calls.put("drop, no page", x -> {
            for (int p : Outside.of(0, pages - 1)) {
                x.drop(p).is(false);
            }
        });
        calls.put("rule, host out of range", x -> {
            for (int host : Outside.of(0, 5)) {
                x.rule(host, 0, false).is(false);
            }
        });
        calls.put("rule, prefix out of range", x -> {
            for (int prefix : Outside.of(0, 999999)) {
                x.rule(1, prefix, false).is(false);
            }
        });
        calls.put("first, no page", x -> {
            for (int p : Outside.of(0, pages - 1)) {
                x.first(p).is(false);
            }
        });
        calls.put("begin, out of range", RefusedCallsTest::beginsOutOfRange);
        calls.put("work, out of range", x -> {
            for (int n : Outside.of(1, 10)) {
                x.work(n).is(NONE);
            }
        });
        return calls;
    }

    private static void beginsOutOfRange(Run x) {
        for (int limit : Outside.of(0, 6)) {
            x.begin(limit, 0, 9, 1).is(false);
        }
        for (int hops : Outside.of(0, 4)) {
            x.begin(6, hops, 0, 8).is(false);
        }
        for (int delay : Outside.of(0, 9)) {
            x.begin(0, 4, delay, 1).is(false);
        }
        for (int every : Outside.of(1, 8)) {
            x.begin(6, 4, 9, every).is(false);
        }
    }

    /** With arguments within their ranges, but refused for another reason. */
    private static Map<String, Run.Part> beginsRefused(String reason) {
        Map<String, Run.Part> calls = new LinkedHashMap<>();
        calls.put("the least begin " + reason, x -> x.begin(0, 0, 0, 1).is(false));
        calls.put("the greatest begin " + reason, x -> x.begin(6, 4, 9, 8).is(false));
        calls.put("the same begin " + reason, x -> x.begin(2, 2, 4, 3).is(false));
        return calls;
    }

    private static Map<String, Run.Part> withoutGathering() {
        Map<String, Run.Part> calls = new LinkedHashMap<>();
        calls.put("stop", x -> x.stop().is(false));
        calls.put("work", x -> {
            for (int n = 1; n <= 10; n++) {
                x.work(n).is(NONE);
            }
        });
        calls.put("crash", x -> x.crash().is(NONE));
        return calls;
    }

    /** Calls that nothing but the gathering refuses. */
    private static Map<String, Run.Part> changesOfTheWeb() {
        Map<String, Run.Part> calls = new LinkedHashMap<>();
        calls.put("page", x -> x.page(4, 4).is(NONE));
        calls.put("write", x -> {
            for (int p = 0; p < BUSY_PAGES; p++) {
                x.write(p, 25).is(false);
            }
        });
        calls.put("link", x -> {
            for (int p = 0; p < BUSY_PAGES; p++) {
                x.link(p, BUSY_PAGES - 1 - p).is(false);
            }
        });
        calls.put("move", x -> {
            for (int p = 0; p < BUSY_PAGES; p++) {
                x.move(p, BUSY_PAGES - 1 - p).is(false);
            }
        });
        calls.put("drop", x -> {
            for (int p = 0; p < BUSY_PAGES; p++) {
                x.drop(p).is(false);
            }
        });
        calls.put("rule", x -> {
            for (int host = 0; host <= 5; host++) {
                x.rule(host, 0, false).is(false);
                x.rule(host, 15, true).is(false);
            }
        });
        calls.put("first", x -> {
            for (int p = 0; p < BUSY_PAGES; p++) {
                x.first(p).is(false);
            }
        });
        return calls;
    }

    /** Asked for what is there and for what is not. */
    private static void questions(Run x) {
        x.clock();
        x.fetches();
        x.waiting();
        for (int p : new int[] {Integer.MIN_VALUE, -1, 0, 1, 3, 11, 12, 31, 32, Integer.MAX_VALUE}) {
            x.allowed(p);
            x.found(p);
            x.corpusAt(p);
            x.document(p);
            x.rank(p, 0);
            x.rank(p, 12);
            x.rank(0, p);
            x.best(p, 1, 0);
            x.best(0, 1, p);
        }
    }
}
