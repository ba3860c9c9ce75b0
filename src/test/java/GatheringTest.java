/** Promises 9 to 12 and 14 to 18: a gathering, its clock, its marks and its corpus. */
public final class GatheringTest {
    private static final Checks CHECKS = new Checks();

    public static void main(String[] args) {
        promise9Begin();
        promise10Stop();
        promise11Work();
        promise11Depth();
        promise11FoundTwice();
        promise12Crash();
        promise12CrashBeforeFirstMark();
        promise12CrashJustBehindMark();
        promise12EveryIsCountedAgain();
        promise12DepthsAfterCrash();
        promise12FetchedBeforeMark();
        promise14Found();
        promise14FetchesNothing();
        promise15Politeness();
        promise15PolitenessOnTheWay();
        promise16FetchedOnce();
        promise16FetchesAfterCrash();
        promise17And18Edges();
        allPagesAtOnce();
        CHECKS.end();
    }

    /** Pages 0, 1, .. of one host, each with a link to the next. */
    private static PoliteGatherer chainOf(int pages) {
        PoliteGatherer x = new PoliteGatherer();
        for (int i = 0; i < pages; i++) {
            CHECKS.due("page(0, " + (i + 1) + ")", x.page(0, i + 1), i);
        }
        for (int i = 0; i + 1 < pages; i++) {
            CHECKS.due("link(" + i + ", " + (i + 1) + ")", x.link(i, i + 1), true);
        }
        CHECKS.due("first(0)", x.first(0), true);
        return x;
    }

    private static void promise9Begin() {
        PoliteGatherer empty = new PoliteGatherer();
        empty.page(0, 1);
        CHECKS.due("9: no first pages", empty.begin(0, 0, 0, 1), false);
        PoliteGatherer x = chainOf(2);
        int[][] wrong = {
            {-1, 0, 0, 1}, {7, 0, 0, 1}, {0, -1, 0, 1}, {0, 5, 0, 1},
            {0, 0, -1, 1}, {0, 0, 10, 1}, {0, 0, 0, 0}, {0, 0, 0, 9},
        };
        for (int[] w : wrong) {
            CHECKS.due("9: begin(" + w[0] + ", " + w[1] + ", " + w[2] + ", " + w[3] + ")",
                x.begin(w[0], w[1], w[2], w[3]), false);
            CHECKS.due("9: nothing is under way", x.work(1), -1);
        }
        CHECKS.due("9: begin(6, 4, 9, 8)", x.begin(6, 4, 9, 8), true);
        CHECKS.due("9: begin again", x.begin(0, 0, 0, 1), false);
        CHECKS.due("9: clock()", x.clock(), 0);
        CHECKS.due("9: fetches()", x.fetches(), 0);
        CHECKS.due("9: waiting()", x.waiting(), 1);
        CHECKS.due("9: corpusAt(0)", x.corpusAt(0), -1);
        CHECKS.due("9: the first limit holds", x.work(10), 2);
        x.stop();
        CHECKS.due("9: begin(0, 0, 0, 1)", x.begin(0, 0, 0, 1), true);
        CHECKS.due("9: everything is anew", x.clock() + x.fetches() + x.crash(), 0);
        CHECKS.due("9: fetched anew", x.work(10), 1);
        CHECKS.due("9: all times from are 0 anew", x.clock(), 1);
    }

    private static void promise10Stop() {
        PoliteGatherer x = chainOf(2);
        x.write(0, 3);
        CHECKS.due("10: stop() before begin", x.stop(), false);
        x.begin(1, 0, 5, 8);
        x.work(10);
        CHECKS.due("10: clock()", x.clock(), 6);
        CHECKS.due("10: stop()", x.stop(), true);
        CHECKS.due("10: stop() again", x.stop(), false);
        CHECKS.due("10: work(1)", x.work(1), -1);
        CHECKS.due("10: crash()", x.crash(), -1);
        CHECKS.due("10: allowed(0)", x.allowed(0), true);
        CHECKS.due("10: found(0)", x.found(0), -1);
        CHECKS.due("10: clock() behind", x.clock(), 0);
        CHECKS.due("10: fetches()", x.fetches(), 0);
        CHECKS.due("10: waiting()", x.waiting(), 0);
        CHECKS.due("10: corpusAt(0)", x.corpusAt(0), -1);
        CHECKS.due("10: document(0)", x.document(0), -1);
        CHECKS.due("10: rank(0, 0)", x.rank(0, 0), 0);
        CHECKS.due("10: best(3, 3, 0)", x.best(3, 3, 0), -1);
        CHECKS.due("10: web and first pages stay", x.begin(1, 0, 5, 8), true);
        CHECKS.due("10: nothing is gathered yet", x.corpusAt(0), -1);
        CHECKS.due("10: all is gathered anew", x.work(10), 2);
        CHECKS.due("10: clock() anew", x.clock(), 6);
        x.stop();
        x.begin(1, 0, 5, 8);
        CHECKS.due("10: waiting() anew in spite of entries left", x.waiting(), 1);
    }

    private static void promise11Work() {
        PoliteGatherer x = chainOf(4);
        CHECKS.due("11: work without a gathering", x.work(1), -1);
        x.begin(6, 0, 0, 8);
        CHECKS.due("11: work(0)", x.work(0), -1);
        CHECKS.due("11: work(-1)", x.work(-1), -1);
        CHECKS.due("11: work(11)", x.work(11), -1);
        CHECKS.due("11: nothing was done", x.waiting() + 10 * x.fetches(), 1);
        CHECKS.due("11: work(1)", x.work(1), 1);
        CHECKS.due("11: work(2)", x.work(2), 2);
        CHECKS.due("11: work(10)", x.work(10), 1);
        CHECKS.due("11: work(10) with an empty queue", x.work(10), 0);
        CHECKS.due("11: crash() counts entries, not what was asked", x.crash(), 4);
        PoliteGatherer y = new PoliteGatherer();
        y.page(0, 1);
        y.rule(0, 0, false);
        y.first(0);
        y.begin(6, 4, 0, 8);
        CHECKS.due("11: what is barred is not fetched", y.work(1), 0);
        CHECKS.due("11: but it was handled", y.waiting(), 0);
        CHECKS.due("11: and is not gathered", y.corpusAt(0), -1);
        CHECKS.due("11: and takes no time", y.clock(), 0);
    }

    private static void promise11Depth() {
        PoliteGatherer x = chainOf(9);
        int limit = 0;
        while (limit <= 6) {
            x.begin(limit, 0, 0, 3);
            CHECKS.due("11: pages within the limit " + limit, x.work(10), limit + 1);
            CHECKS.due("11: the last of them", x.corpusAt(limit), limit);
            CHECKS.due("11: no page behind it", x.corpusAt(limit + 1), -1);
            x.stop();
            limit++;
        }
        // Page 3 is reached at depth 1 by a link and at depth 2 by another: the lesser one counts.
        PoliteGatherer y = chainOf(5);
        y.link(0, 3);
        y.begin(2, 0, 0, 8);
        CHECKS.due("11: work(10)", y.work(10), 5);
        CHECKS.due("11: corpusAt(1)", y.corpusAt(1), 1);
        CHECKS.due("11: corpusAt(2)", y.corpusAt(2), 3);
        CHECKS.due("11: corpusAt(3)", y.corpusAt(3), 2);
        CHECKS.due("11: corpusAt(4)", y.corpusAt(4), 4);
    }

    private static void promise11FoundTwice() {
        PoliteGatherer x = new PoliteGatherer();
        x.page(0, 1);
        x.page(0, 2);
        x.page(0, 3);
        x.move(0, 2);
        x.move(1, 2);
        x.link(2, 0);
        x.link(2, 2);
        x.first(0);
        x.first(1);
        x.begin(6, 1, 0, 8);
        CHECKS.due("11: fetches 0 and 2", x.work(1), 2);
        CHECKS.due("11: queues 2, not 0 again", x.waiting(), 2);
        CHECKS.due("11: fetches only 1", x.work(1), 1);
        CHECKS.due("11: fetches nothing", x.work(1), 0);
        CHECKS.due("11: corpusAt(0)", x.corpusAt(0), 2);
        CHECKS.due("11: in the corpus once", x.corpusAt(1), -1);
        CHECKS.due("11: the queue is empty", x.waiting(), 0);
    }

    private static void promise12Crash() {
        PoliteGatherer x = chainOf(7);
        CHECKS.due("12: crash without a gathering", x.crash(), -1);
        x.begin(6, 0, 2, 2);
        x.work(3);
        CHECKS.due("12: clock()", x.clock(), 5);
        CHECKS.due("12: crash()", x.crash(), 1);
        CHECKS.due("12: NOW stays", x.clock(), 5);
        CHECKS.due("12: corpusAt(1)", x.corpusAt(1), 1);
        CHECKS.due("12: corpusAt(2)", x.corpusAt(2), -1);
        CHECKS.due("12: waiting()", x.waiting(), 1);
        CHECKS.due("12: crash() again", x.crash(), 0);
        CHECKS.due("12: fetched again", x.work(1), 1);
        CHECKS.due("12: not before NOW + delay", x.clock(), 8);
        CHECKS.due("12: work(10)", x.work(10), 4);
        CHECKS.due("12: seven handled, a mark at six", x.crash(), 1);
        CHECKS.due("12: corpusAt(5)", x.corpusAt(5), 5);
        CHECKS.due("12: corpusAt(6)", x.corpusAt(6), -1);
    }

    private static void promise12CrashBeforeFirstMark() {
        PoliteGatherer x = chainOf(3);
        x.page(1, 1);
        x.first(3);
        x.begin(6, 0, 9, 8);
        x.work(3);
        CHECKS.due("12: crash() to the beginning", x.crash(), 3);
        CHECKS.due("12: the first pages wait", x.waiting(), 2);
        CHECKS.due("12: the corpus is empty", x.corpusAt(0), -1);
        CHECKS.due("12: NOW stays", x.clock(), 10);
        CHECKS.due("12: pages queued since are queued again", x.work(10), 4);
        CHECKS.due("12: corpusAt(2)", x.corpusAt(2), 1);
        CHECKS.due("12: corpusAt(3)", x.corpusAt(3), 2);
        CHECKS.due("12: fetches()", x.fetches(), 7);
    }

    private static void promise12CrashJustBehindMark() {
        PoliteGatherer x = new PoliteGatherer();
        x.page(0, 1);
        x.page(1, 1);
        x.first(0);
        x.first(1);
        x.begin(0, 0, 7, 1);
        CHECKS.due("12: crash() behind the first mark", x.crash(), 0);
        x.work(1);
        CHECKS.due("12: clock() after the delay", x.clock(), 8);
        CHECKS.due("12: crash() behind a mark", x.crash(), 0);
        CHECKS.due("12: nothing is undone", x.corpusAt(0), 0);
        CHECKS.due("12: work(1)", x.work(1), 1);
        CHECKS.due("12: a host that was not asked waits too", x.clock(), 16);
    }

    private static void promise12EveryIsCountedAgain() {
        PoliteGatherer x = chainOf(7);
        x.begin(6, 0, 0, 3);
        x.work(2);
        CHECKS.due("12: two since the beginning", x.crash(), 2);
        x.work(2);
        CHECKS.due("12: two again", x.crash(), 2);
        x.work(3);
        CHECKS.due("12: a mark after three", x.crash(), 0);
        x.work(4);
        CHECKS.due("12: one behind the next mark", x.crash(), 1);
        CHECKS.due("12: corpusAt(5)", x.corpusAt(5), 5);
        CHECKS.due("12: corpusAt(6)", x.corpusAt(6), -1);
    }

    private static void promise12DepthsAfterCrash() {
        PoliteGatherer x = chainOf(5);
        x.begin(2, 0, 0, 8);
        x.work(1);
        CHECKS.due("12: crash() with an entry of depth 1 queued", x.crash(), 1);
        CHECKS.due("12: the limit is as far as before", x.work(10), 3);
        CHECKS.due("12: corpusAt(2)", x.corpusAt(2), 2);
        CHECKS.due("12: corpusAt(3)", x.corpusAt(3), -1);
    }

    private static void promise12FetchedBeforeMark() {
        PoliteGatherer x = chainOf(3);
        x.move(1, 0);
        x.first(1);
        x.begin(0, 1, 0, 1);
        x.work(1);
        x.crash();
        CHECKS.due("12: what was fetched at the mark stays fetched", x.work(1), 1);
        CHECKS.due("12: fetches()", x.fetches(), 2);
    }

    private static void promise14Found() {
        PoliteGatherer x = new PoliteGatherer();
        for (int i = 0; i < 6; i++) {
            x.page(i, 10 + i);
        }
        for (int i = 0; i < 5; i++) {
            x.move(i, i + 1);
        }
        x.first(0);
        CHECKS.due("14: found(5) without a gathering", x.found(5), -1);
        for (int hops = 0; hops <= 4; hops++) {
            x.begin(0, hops, 0, 1);
            for (int p = 0; p < 6; p++) {
                CHECKS.due("14: found(" + p + ") with hops " + hops, x.found(p), 5 - p <= hops ? 5 : -1);
            }
            x.stop();
        }
        x.rule(3, 1, false);
        x.begin(0, 4, 0, 1);
        CHECKS.due("14: a barred page on the way", x.found(1), -1);
        CHECKS.due("14: a barred page itself", x.found(3), -1);
        CHECKS.due("14: no barred page on the way", x.found(4), 5);
        CHECKS.due("14: found(-1)", x.found(-1), -1);
        CHECKS.due("14: found(6)", x.found(6), -1);
        x.stop();
        x.rule(5, 0, false);
        x.begin(0, 4, 0, 1);
        CHECKS.due("14: a barred page at the end", x.found(4), -1);
        CHECKS.due("14: fetches up to the barred page", x.work(1), 3);
    }

    private static void promise14FetchesNothing() {
        PoliteGatherer x = chainOf(2);
        x.move(0, 1);
        x.begin(0, 1, 5, 1);
        CHECKS.due("14: found(0)", x.found(0), 1);
        CHECKS.due("14: fetches()", x.fetches(), 0);
        CHECKS.due("14: clock()", x.clock(), 0);
        CHECKS.due("14: corpusAt(0)", x.corpusAt(0), -1);
        CHECKS.due("14: work(1)", x.work(1), 2);
        CHECKS.due("14: clock() behind", x.clock(), 6);
    }

    private static void promise15Politeness() {
        PoliteGatherer x = new PoliteGatherer();
        int[] hosts = {0, 0, 1, 1, 0};
        for (int i = 0; i < hosts.length; i++) {
            x.page(hosts[i], i + 1);
            x.first(i);
        }
        CHECKS.due("15: clock() without a gathering", x.clock(), 0);
        x.begin(0, 0, 4, 8);
        // Fetched at 0, 4, 5, 9 and 10: host 0 may be asked from 8, host 1 from 9.
        int[] clocks = {1, 5, 6, 10, 11};
        for (int clock : clocks) {
            CHECKS.due("15: work(1)", x.work(1), 1);
            CHECKS.due("15: clock()", x.clock(), clock);
        }
        x.work(10);
        CHECKS.due("15: no work takes no time", x.clock(), 11);
        x.stop();
        x.begin(0, 0, 1, 8);
        x.work(10);
        CHECKS.due("15: a delay of 1 is none that is felt", x.clock(), 5);
    }

    private static void promise15PolitenessOnTheWay() {
        PoliteGatherer x = chainOf(3);
        x.move(0, 1);
        x.move(1, 2);
        x.drop(2);
        x.begin(0, 4, 9, 8);
        CHECKS.due("15: moved and gone pages are fetched", x.work(1), 3);
        CHECKS.due("15: each after the delay", x.clock(), 19);
        x.stop();
        x.begin(0, 1, 9, 8);
        CHECKS.due("15: no hop is left for the third", x.work(1), 2);
        CHECKS.due("15: clock()", x.clock(), 10);
    }

    private static void promise16FetchedOnce() {
        PoliteGatherer x = new PoliteGatherer();
        x.page(0, 1);
        x.page(0, 2);
        x.move(0, 0);
        x.move(1, 0);
        x.first(0);
        x.first(1);
        CHECKS.due("16: fetches() without a gathering", x.fetches(), 0);
        x.begin(0, 4, 3, 1);
        CHECKS.due("16: moved to itself", x.work(1), 1);
        CHECKS.due("16: only the second is new", x.work(1), 1);
        CHECKS.due("16: fetches()", x.fetches(), 2);
        CHECKS.due("16: clock()", x.clock(), 4);
    }

    private static void promise16FetchesAfterCrash() {
        PoliteGatherer x = chainOf(3);
        x.begin(6, 0, 0, 2);
        x.work(3);
        x.crash();
        CHECKS.due("16: fetches() keeps what was undone", x.fetches(), 3);
        CHECKS.due("16: what was undone is fetched again", x.work(10), 1);
        CHECKS.due("16: fetches()", x.fetches(), 4);
        x.crash();
        x.work(10);
        CHECKS.due("16: and again", x.fetches(), 5);
        CHECKS.due("16: clock()", x.clock(), 5);
    }

    private static void promise17And18Edges() {
        PoliteGatherer x = chainOf(3);
        CHECKS.due("17: waiting() without a gathering", x.waiting(), 0);
        CHECKS.due("18: corpusAt(0) without a gathering", x.corpusAt(0), -1);
        x.link(0, 2);
        x.begin(6, 0, 0, 8);
        CHECKS.due("17: waiting() at first", x.waiting(), 1);
        x.work(1);
        CHECKS.due("17: waiting() behind one", x.waiting(), 2);
        x.work(1);
        CHECKS.due("17: nothing is queued twice", x.waiting(), 1);
        x.work(1);
        CHECKS.due("17: waiting() at last", x.waiting(), 0);
        CHECKS.due("18: corpusAt(0)", x.corpusAt(0), 0);
        CHECKS.due("18: corpusAt(2)", x.corpusAt(2), 2);
        CHECKS.due("18: corpusAt(3)", x.corpusAt(3), -1);
        CHECKS.due("18: corpusAt(-1)", x.corpusAt(-1), -1);
        CHECKS.due("18: corpusAt(32)", x.corpusAt(32), -1);
        CHECKS.due("18: corpusAt(MAX)", x.corpusAt(Integer.MAX_VALUE), -1);
    }

    private static void allPagesAtOnce() {
        PoliteGatherer x = new PoliteGatherer();
        for (int i = 0; i < 32; i++) {
            x.page(i % 6, i + 1);
        }
        for (int i = 0; i < 32; i++) {
            for (int j = 1; j <= 5; j++) {
                x.link(i, Math.floorMod(5 * i + j, 32));
            }
        }
        x.first(0);
        x.begin(6, 4, 9, 8);
        int fetched = 0;
        for (int i = 0; i < 4; i++) {
            fetched += x.work(10);
        }
        CHECKS.due("all 32 pages are fetched", fetched, 32);
        CHECKS.due("the queue is empty", x.waiting(), 0);
        CHECKS.due("the corpus has 32", x.corpusAt(31) >= 0, true);
        CHECKS.due("and no more", x.corpusAt(32), -1);
        CHECKS.due("the last mark is behind the last entry", x.crash(), 0);
    }
}
