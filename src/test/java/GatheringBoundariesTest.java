/**
 * Promises 9 to 11 and 14 to 18 at their edges: for each sentence that names one, a test of its own.
 * The sentence stands above its test.
 */
public final class GatheringBoundariesTest {
    private static final Checks CHECKS = new Checks();
    private static final int NONE = PoliteGatherer.NONE;

    public static void main(String[] args) {
        beginLimit();
        beginHops();
        beginDelay();
        beginEvery();
        beginWithSeveralOutOfRange();
        beginUnderWay();
        beginWithoutFirstPages();
        beginQueuesEachFirstPageOnce();
        beginIsEmpty();
        beginAnew();

        stopWithoutGathering();
        stopForgets();
        stopKeepsTheWeb();

        workNumber();
        workWithoutGathering();
        workUntilTheQueueIsEmpty();
        workOnAnEmptyQueue();
        workTen();
        depthLessThanLimit();
        limitZero();
        queuedAlready();
        inTheCorpusAlready();
        barredIsNotFetched();
        goneIsFetched();
        fetchedOnce();

        hopsMade();
        hopsFetched();
        movedInACircle();
        barredOnTheWay();
        goneAtTheEnd();
        foundNoPage();
        foundWithoutGathering();
        foundGatheredOrNot();

        clockWithoutGathering();
        greaterOfNowAndFrom();
        delayZero();
        delayNine();
        eachHostHasItsTime();

        fetchesWithoutGathering();
        waitingWithoutGathering();
        waitingFull();
        corpusNoSuchPlace();
        corpusEmpty();
        corpusFull();
        CHECKS.end();
    }

    private static Run run(String sentence) {
        return new Run(CHECKS, sentence);
    }

    private static Run chain(String sentence, int pages) {
        return Webs.chain(CHECKS, sentence, pages);
    }

    // Promise 9

    // "limit is not 0 .. 6"
    private static void beginLimit() {
        Run x = chain("9: limit is not 0 .. 6", 1);
        for (int limit : Outside.of(0, 6)) {
            x.begin(limit, 0, 0, 1).is(false);
            x.begin(limit, 4, 9, 8).is(false);
        }
        x.stop().is(false);
        for (int limit = 0; limit <= 6; limit++) {
            x.begin(limit, 0, 0, 1).is(true);
            x.stop().is(true);
        }
    }

    // "hops not 0 .. 4"
    private static void beginHops() {
        Run x = chain("9: hops not 0 .. 4", 1);
        for (int hops : Outside.of(0, 4)) {
            x.begin(0, hops, 0, 1).is(false);
            x.begin(6, hops, 9, 8).is(false);
        }
        x.stop().is(false);
        for (int hops = 0; hops <= 4; hops++) {
            x.begin(6, hops, 9, 8).is(true);
            x.stop().is(true);
        }
    }

    // "delay not 0 .. 9"
    private static void beginDelay() {
        Run x = chain("9: delay not 0 .. 9", 1);
        for (int delay : Outside.of(0, 9)) {
            x.begin(0, 0, delay, 1).is(false);
            x.begin(6, 4, delay, 8).is(false);
        }
        x.stop().is(false);
        for (int delay = 0; delay <= 9; delay++) {
            x.begin(0, 4, delay, 1).is(true);
            x.stop().is(true);
        }
    }

    // "every not 1 .. 8"
    private static void beginEvery() {
        Run x = chain("9: every not 1 .. 8", 1);
        for (int every : Outside.of(1, 8)) {
            x.begin(0, 0, 0, every).is(false);
            x.begin(6, 4, 9, every).is(false);
        }
        x.stop().is(false);
        for (int every = 1; every <= 8; every++) {
            x.begin(6, 0, 0, every).is(true);
            x.stop().is(true);
        }
    }

    // "limit is not 0 .. 6, hops not 0 .. 4, delay not 0 .. 9, or every not 1 .. 8", all at once
    private static void beginWithSeveralOutOfRange() {
        Run x = chain("9: several are out of range", 1);
        x.begin(-1, -1, -1, 0).is(false);
        x.begin(7, 5, 10, 9).is(false);
        x.begin(Integer.MIN_VALUE, Integer.MIN_VALUE, Integer.MIN_VALUE, Integer.MIN_VALUE).is(false);
        x.begin(Integer.MAX_VALUE, Integer.MAX_VALUE, Integer.MAX_VALUE, Integer.MAX_VALUE).is(false);
        x.waiting().is(0);
        x.work(1).is(NONE);
        x.begin(6, 4, 9, 8).is(true);
    }

    // "Refused, false: one is under way"
    private static void beginUnderWay() {
        Run x = chain("9: one is under way", 4);
        x.move(1, 2).is(true);
        x.begin(1, 1, 3, 2).is(true);
        x.begin(6, 4, 0, 8).is(false);
        x.begin(0, 0, 9, 1).is(false);
        x.begin(7, 0, 0, 1).is(false);
        x.work(1).is(1);
        x.begin(1, 1, 3, 2).is(false);
        x.begin(6, 4, 0, 8).is(false);
        x.waiting().is(1);
        x.clock().is(1);
        x.corpusAt(0).is(0);
        x.found(1).is(2);
        // Page 1 at 3, page 2 at 6, by the delay of the first call; the limit keeps 3 away.
        x.work(10).is(2);
        x.clock().is(7);
        x.crash().is(0);
        x.fetches().is(3);
        x.begin(0, 0, 9, 1).is(false);
        x.found(1).is(2);
        x.stop().is(true);
        x.begin(6, 4, 0, 8).is(true);
    }

    // "there are no first pages"
    private static void beginWithoutFirstPages() {
        Run x = run("9: there are no first pages");
        x.begin(0, 0, 0, 1).is(false);
        x.page(0, 1).is(0);
        x.link(0, 0).is(true);
        x.begin(0, 0, 0, 1).is(false);
        x.begin(6, 4, 9, 8).is(false);
        x.first(1).is(false);
        x.begin(0, 0, 0, 1).is(false);
        x.stop().is(false);
        x.page(0, 2).is(1);
        x.first(0).is(true);
        x.begin(0, 0, 0, 1).is(true);
    }

    // "each first page, in order, unless it is queued already, queued as an entry of depth 0"
    private static void beginQueuesEachFirstPageOnce() {
        Run x = Webs.pages(CHECKS, "9: each first page once", 6);
        for (int i = 0; i < 6; i++) {
            x.first(5).is(true);
        }
        x.begin(0, 0, 0, 1).is(true);
        x.waiting().is(1);
        x.work(10).is(1);
        x.corpusAt(0).is(5);
        Run y = Webs.pages(CHECKS, "9: six first pages", 8);
        int[] firsts = {5, 3, 1, 0, 2, 4};
        for (int p : firsts) {
            y.link(p, 6).is(true);
            y.first(p).is(true);
        }
        y.link(6, 7).is(true);
        y.begin(1, 0, 0, 1).is(true);
        y.waiting().is(6);
        // All have depth 0, so that page 6 has depth 1 and page 7 is beyond the limit.
        y.work(10).is(7);
        for (int i = 0; i < 6; i++) {
            y.corpusAt(i).is(firsts[i]);
        }
        y.corpusAt(6).is(6);
        y.corpusAt(7).is(NONE);
    }

    // "nothing is fetched, the corpus is empty, NOW is 0 .."
    private static void beginIsEmpty() {
        Run x = Webs.hosts(CHECKS, "9: nothing is fetched yet", 6);
        x.begin(6, 4, 9, 8).is(true);
        x.clock().is(0);
        x.fetches().is(0);
        x.waiting().is(6);
        x.corpusAt(0).is(NONE);
        for (int p = 0; p < 6; p++) {
            x.document(p).is(NONE);
            x.rank(p, 0).is(0);
        }
    }

    // ".. and so are all times FROM", also behind another gathering
    private static void beginAnew() {
        Run x = Webs.hosts(CHECKS, "9: begins anew", 6);
        for (int i = 0; i < 3; i++) {
            x.begin(0, 0, 9, 4).is(true);
            x.clock().is(0);
            x.fetches().is(0);
            x.waiting().is(6);
            x.corpusAt(0).is(NONE);
            x.work(1).is(1);
            x.clock().is(1);
            x.work(5).is(5);
            x.clock().is(6);
            x.crash().is(2);
            x.work(1).is(1);
            // The crash left all times FROM at 6 + 9; the next gathering knows nothing of them.
            x.clock().is(16);
            x.stop().is(true);
        }
        x.begin(0, 0, 9, 4).is(true);
        x.work(3).is(3);
        x.stop().is(true);
        x.begin(0, 0, 9, 4).is(true);
        // Marks are counted anew: three handled before do not count.
        x.work(1).is(1);
        x.crash().is(1);
        x.waiting().is(6);
    }

    // Promise 10

    // "Refused, false: none is under way"
    private static void stopWithoutGathering() {
        Run x = run("10: none is under way");
        x.stop().is(false);
        x.page(0, 1).is(0);
        x.first(0).is(true);
        x.stop().is(false);
        x.begin(7, 0, 0, 1).is(false);
        x.stop().is(false);
        x.begin(0, 0, 0, 1).is(true);
        x.stop().is(true);
        x.stop().is(false);
        x.begin(0, 0, 0, 1).is(true);
        x.work(10).is(1);
        x.work(10).is(0);
        // A gathering whose queue is empty is under way all the same.
        x.stop().is(true);
        x.stop().is(false);
    }

    // "what it gathered is forgotten"
    private static void stopForgets() {
        Run x = chain("10: what it gathered is forgotten", 3);
        x.write(0, 1).is(true);
        x.begin(6, 4, 2, 8).is(true);
        x.work(2).is(2);
        x.stop().is(true);
        x.work(1).is(NONE);
        x.crash().is(NONE);
        x.found(0).is(NONE);
        x.clock().is(0);
        x.fetches().is(0);
        x.waiting().is(0);
        x.corpusAt(0).is(NONE);
        x.document(0).is(NONE);
        x.rank(0, 0).is(0);
        x.best(1, 1, 0).is(NONE);
        x.begin(6, 4, 2, 8).is(true);
        x.corpusAt(0).is(NONE);
        x.waiting().is(1);
        x.crash().is(0);
        x.waiting().is(1);
        x.work(10).is(3);
    }

    // "(web, rules and first pages stay)"
    private static void stopKeepsTheWeb() {
        Run x = chain("10: web, rules and first pages stay", 5);
        x.write(0, 4).is(true);
        x.write(1, 5).is(true);
        x.move(1, 4).is(true);
        x.write(4, 6).is(true);
        x.link(0, 2).is(true);
        x.drop(2).is(true);
        x.rule(0, 4, false).is(true);
        x.link(0, 3).is(true);
        x.first(0).is(true);
        for (int i = 0; i < 2; i++) {
            x.begin(1, 1, 1, 8).is(true);
            x.waiting().is(1);
            x.found(1).is(4);
            x.found(2).is(NONE);
            x.allowed(3).is(false);
            x.work(10).is(4);
            x.corpusAt(0).is(0);
            x.corpusAt(1).is(4);
            x.corpusAt(2).is(NONE);
            x.best(4, 6, 0).is(4);
            x.best(4, 6, 1).is(0);
            x.stop().is(true);
        }
        x.page(0, 5).is(NONE);
        x.page(0, 6).is(5);
    }

    // Promise 11

    // "n is not 1 .. 10"
    private static void workNumber() {
        Run x = chain("11: n is not 1 .. 10", 3);
        x.begin(6, 0, 5, 2).is(true);
        for (int n : Outside.of(1, 10)) {
            x.work(n).is(NONE);
        }
        x.waiting().is(1);
        x.fetches().is(0);
        x.clock().is(0);
        x.work(1).is(1);
        for (int n : Outside.of(1, 10)) {
            x.work(n).is(NONE);
        }
        x.waiting().is(1);
        x.clock().is(1);
        x.crash().is(1);
        for (int n = 1; n <= 10; n++) {
            x.stop().is(true);
            x.begin(6, 0, 0, 8).is(true);
            x.work(n).is(Math.min(n, 3));
        }
        for (int n : Outside.of(1, 10)) {
            x.work(n).is(NONE);
        }
    }

    // "Refused, NONE: no gathering is under way"
    private static void workWithoutGathering() {
        Run x = chain("11: no gathering is under way", 1);
        for (int n = 0; n <= 11; n++) {
            x.work(n).is(NONE);
        }
        x.begin(0, 0, 0, 1).is(true);
        x.stop().is(true);
        x.work(1).is(NONE);
        x.begin(0, 0, 0, 1).is(true);
        x.work(1).is(1);
    }

    // "Handles n entries, or as many as there are .. until the queue is empty"
    private static void workUntilTheQueueIsEmpty() {
        for (int n = 1; n <= 10; n++) {
            Run x = Webs.hosts(CHECKS, "11: as many as there are", 6);
            x.begin(0, 0, 0, 8).is(true);
            int handled = Math.min(n, 6);
            x.work(n).is(handled);
            x.waiting().is(6 - handled);
            // An entry that is not there is not handled: EVERY counts entries alone.
            x.crash().is(handled);
        }
        // Entries that are queued while it works are handled too.
        Run y = chain("11: until the queue is empty", 7);
        y.begin(6, 0, 0, 8).is(true);
        y.work(6).is(6);
        y.waiting().is(1);
        y.crash().is(6);
        y.work(7).is(7);
        y.waiting().is(0);
    }

    // "(perhaps none)"
    private static void workOnAnEmptyQueue() {
        Run x = chain("11: perhaps none", 1);
        x.begin(0, 0, 9, 2).is(true);
        x.work(10).is(1);
        for (int n = 1; n <= 10; n++) {
            x.work(n).is(0);
        }
        x.clock().is(1);
        x.fetches().is(1);
        x.waiting().is(0);
        x.corpusAt(0).is(0);
        x.corpusAt(1).is(NONE);
        x.crash().is(1);
        x.work(1).is(1);
        x.clock().is(11);
    }

    // "Handles n entries", the greatest n
    private static void workTen() {
        Run x = Webs.pages(CHECKS, "11: ten of twelve", 12);
        x.first(0).is(true);
        x.first(1).is(true);
        for (int i = 2; i < 12; i++) {
            x.link(i < 7 ? 0 : 1, i).is(true);
        }
        x.begin(1, 0, 0, 8).is(true);
        x.work(10).is(10);
        x.waiting().is(2);
        x.corpusAt(9).is(9);
        x.corpusAt(10).is(NONE);
        x.crash().is(2);
        x.work(3).is(3);
        x.work(1).is(1);
        x.work(1).is(0);
        x.corpusAt(11).is(11);
    }

    // "if the depth of the entry is less than the limit .. with a depth 1 greater"
    private static void depthLessThanLimit() {
        Run x = chain("11: depth is less than the limit", 8);
        for (int limit = 0; limit <= 6; limit++) {
            x.begin(limit, 0, 0, 8).is(true);
            x.work(limit + 1).is(limit + 1);
            x.waiting().is(0);
            x.work(10).is(0);
            x.corpusAt(limit).is(limit);
            x.corpusAt(limit + 1).is(NONE);
            x.stop().is(true);
        }
    }

    // "if the depth of the entry is less than the limit", the limit being 0
    private static void limitZero() {
        Run x = Webs.pages(CHECKS, "11: with limit 0 no link is followed", 4);
        x.link(0, 2).is(true);
        x.link(1, 3).is(true);
        x.first(0).is(true);
        x.first(1).is(true);
        x.begin(0, 0, 0, 8).is(true);
        x.work(1).is(1);
        x.waiting().is(1);
        x.work(10).is(1);
        x.waiting().is(0);
        x.stop().is(true);
        x.begin(1, 0, 0, 8).is(true);
        x.work(1).is(1);
        x.waiting().is(2);
        x.work(10).is(3);
    }

    // "unless it is queued already"; "(A page that was queued stays queued, though its entry was handled.)"
    private static void queuedAlready() {
        Run x = chain("11: queued already", 3);
        x.link(0, 0).is(true);
        x.link(0, 1).is(true);
        x.link(1, 0).is(true);
        x.link(1, 1).is(true);
        x.link(2, 0).is(true);
        x.link(2, 1).is(true);
        x.begin(6, 0, 0, 8).is(true);
        x.work(1).is(1);
        x.waiting().is(1);
        x.work(1).is(1);
        x.waiting().is(1);
        x.work(1).is(1);
        x.waiting().is(0);
        // Also a page of which nothing was found, and that of a link told before.
        Run y = Webs.pages(CHECKS, "11: queued already, nothing found", 2);
        y.drop(0).is(true);
        y.link(1, 0).is(true);
        y.first(0).is(true);
        y.first(1).is(true);
        y.begin(6, 0, 0, 8).is(true);
        y.work(2).is(2);
        y.waiting().is(0);
    }

    // "If a page is found that is not in the corpus, it becomes the last of the corpus"
    private static void inTheCorpusAlready() {
        Run x = Webs.pages(CHECKS, "11: in the corpus already", 4);
        x.move(0, 3).is(true);
        x.move(1, 3).is(true);
        for (int p = 0; p < 4; p++) {
            x.first(p).is(true);
        }
        x.begin(6, 1, 0, 8).is(true);
        x.work(1).is(2);
        x.work(1).is(1);
        x.work(1).is(1);
        x.work(1).is(0);
        x.corpusAt(0).is(3);
        x.corpusAt(1).is(2);
        x.corpusAt(2).is(NONE);
    }

    // "Every page that is looked at and allowed .. is FETCHED"
    private static void barredIsNotFetched() {
        Run x = chain("11: barred", 2);
        x.rule(0, 1, false).is(true);
        x.begin(6, 4, 9, 8).is(true);
        x.work(1).is(0);
        x.waiting().is(0);
        x.clock().is(0);
        x.fetches().is(0);
        x.corpusAt(0).is(NONE);
        // It was handled, though nothing was fetched.
        x.crash().is(1);
        x.waiting().is(1);
    }

    // "Every page that is looked at and allowed", what is gone too
    private static void goneIsFetched() {
        Run x = chain("11: gone", 2);
        x.drop(0).is(true);
        x.begin(6, 4, 9, 8).is(true);
        x.work(10).is(1);
        x.waiting().is(0);
        x.clock().is(1);
        x.corpusAt(0).is(NONE);
    }

    // "and is not fetched yet"
    private static void fetchedOnce() {
        Run x = Webs.pages(CHECKS, "11: not fetched yet", 4);
        x.move(0, 2).is(true);
        x.move(1, 2).is(true);
        x.move(2, 3).is(true);
        x.drop(3).is(true);
        for (int p = 0; p < 4; p++) {
            x.first(p).is(true);
        }
        x.begin(0, 2, 9, 8).is(true);
        x.work(1).is(3);
        x.clock().is(19);
        x.work(1).is(1);
        x.clock().is(28);
        x.work(2).is(0);
        x.clock().is(28);
        x.fetches().is(4);
    }

    // Promise 14, and chasing

    // "If it is MOVED: when so many hops were made already, nothing is found"
    private static void hopsMade() {
        Run x = Webs.pages(CHECKS, "14: hops were made already", 7);
        for (int p = 0; p < 6; p++) {
            x.move(p, p + 1).is(true);
        }
        x.first(0).is(true);
        for (int hops = 0; hops <= 4; hops++) {
            x.begin(0, hops, 0, 1).is(true);
            for (int p = 0; p <= 6; p++) {
                x.found(p).is(6 - p <= hops ? 6 : NONE);
            }
            x.stop().is(true);
        }
    }

    // "Every page that is looked at", up to the last hop
    private static void hopsFetched() {
        Run x = Webs.pages(CHECKS, "14: what is looked at within the hops is fetched", 7);
        for (int p = 0; p < 6; p++) {
            x.move(p, p + 1).is(true);
        }
        x.first(2).is(true);
        for (int hops = 0; hops <= 4; hops++) {
            x.begin(0, hops, 0, 1).is(true);
            // The page whose hop is one too many is fetched, the one behind it is not.
            x.work(10).is(hops + 1);
            x.corpusAt(0).is(hops == 4 ? 6 : NONE);
            x.stop().is(true);
        }
    }

    // "when so many hops were made already", on a way without an end
    private static void movedInACircle() {
        Run x = Webs.pages(CHECKS, "14: moved in a circle", 3);
        x.move(0, 1).is(true);
        x.move(1, 2).is(true);
        x.move(2, 0).is(true);
        x.first(0).is(true);
        for (int hops = 0; hops <= 4; hops++) {
            x.begin(0, hops, 0, 1).is(true);
            x.found(0).is(NONE);
            x.found(1).is(NONE);
            x.found(2).is(NONE);
            x.work(10).is(Math.min(hops + 1, 3));
            x.stop().is(true);
        }
    }

    // "If the page looked at is not allowed, nothing is found."
    private static void barredOnTheWay() {
        for (int barred = 0; barred <= 4; barred++) {
            Run x = run("14: page " + barred + " is not allowed");
            for (int p = 0; p <= 4; p++) {
                x.page(p, 1).is(p);
                if (p > 0) {
                    x.move(p - 1, p).is(true);
                }
            }
            x.rule(barred, 1, false).is(true);
            x.first(0).is(true);
            x.begin(0, 4, 0, 1).is(true);
            for (int p = 0; p <= 4; p++) {
                x.found(p).is(p <= barred ? NONE : 4);
            }
            x.work(10).is(barred);
            x.corpusAt(0).is(NONE);
        }
    }

    // "If it is GONE, nothing is found."
    private static void goneAtTheEnd() {
        Run x = Webs.pages(CHECKS, "14: gone", 3);
        x.move(0, 1).is(true);
        x.move(1, 2).is(true);
        x.drop(2).is(true);
        x.first(0).is(true);
        x.begin(0, 4, 0, 1).is(true);
        for (int p = 0; p < 3; p++) {
            x.found(p).is(NONE);
        }
        x.work(10).is(3);
        x.corpusAt(0).is(NONE);
    }

    // "NONE when .. p is no page"
    private static void foundNoPage() {
        Run x = chain("14: p is no page", 3);
        x.begin(6, 4, 0, 1).is(true);
        for (int p : Outside.of(0, 2)) {
            x.found(p).is(NONE);
        }
        x.found(0).is(0);
        x.found(2).is(2);
        x.found(3).is(NONE);
        x.found(32).is(NONE);
    }

    // "NONE when .. no gathering is under way"
    private static void foundWithoutGathering() {
        Run x = chain("14: no gathering is under way", 2);
        x.found(0).is(NONE);
        x.found(1).is(NONE);
        x.found(2).is(NONE);
        x.begin(0, 0, 0, 1).is(true);
        x.found(0).is(0);
        x.stop().is(true);
        x.found(0).is(NONE);
        x.found(Integer.MIN_VALUE).is(NONE);
        x.found(Integer.MAX_VALUE).is(NONE);
    }

    // "(gathered or not; nothing is fetched by it)"
    private static void foundGatheredOrNot() {
        Run x = chain("14: gathered or not", 3);
        x.move(1, 2).is(true);
        x.begin(6, 1, 9, 8).is(true);
        for (int i = 0; i < 3; i++) {
            x.found(0).is(0);
            x.found(1).is(2);
            x.found(2).is(2);
            x.fetches().is(i == 2 ? 3 : i);
            x.corpusAt(i).is(NONE);
            x.work(1);
        }
        x.clock().is(19);
        x.crash().is(2);
        x.found(1).is(2);
    }

    // Promise 15

    // "0 when no gathering is under way"
    private static void clockWithoutGathering() {
        Run x = chain("15: no gathering is under way", 2);
        x.clock().is(0);
        x.begin(6, 0, 9, 1).is(true);
        x.clock().is(0);
        x.work(10).is(2);
        x.clock().is(10);
        x.stop().is(true);
        x.clock().is(0);
        x.begin(6, 0, 9, 1).is(true);
        x.clock().is(0);
    }

    // "with t the greater of NOW and the time FROM of its host"
    private static void greaterOfNowAndFrom() {
        // Host 0 is asked at 0; then so many other hosts; then host 0 again, which may be asked from 3.
        for (int others = 0; others <= 5; others++) {
            Run x = run("15: the greater of NOW " + (others + 1) + " and FROM 3");
            for (int i = 0; i <= others; i++) {
                x.page(i, 1).is(i);
            }
            x.page(0, 2).is(others + 1);
            for (int i = 0; i <= others + 1 && i < 6; i++) {
                x.first(i).is(true);
            }
            x.link(others, others + 1).is(true);
            x.begin(1, 0, 3, 8).is(true);
            x.work(others + 1).is(others + 1);
            x.clock().is(others + 1);
            x.work(1).is(1);
            x.clock().is(Math.max(others + 1, 3) + 1);
        }
    }

    // a DELAY of 0, the least
    private static void delayZero() {
        Run x = chain("15: a delay of 0", 4);
        x.begin(6, 0, 0, 8).is(true);
        for (int i = 1; i <= 4; i++) {
            x.work(1).is(1);
            x.clock().is(i);
        }
        x.crash().is(4);
        x.clock().is(4);
        x.work(1).is(1);
        x.clock().is(5);
        x.stop().is(true);
        // With a delay of 1 a host may be asked again at once.
        x.begin(6, 0, 1, 8).is(true);
        x.work(10).is(4);
        x.clock().is(4);
        x.stop().is(true);
        x.begin(6, 0, 2, 8).is(true);
        x.work(10).is(4);
        x.clock().is(7);
    }

    // a DELAY of 9, the greatest: "that time FROM becomes t + delay, and NOW becomes t + 1"
    private static void delayNine() {
        Run x = chain("15: a delay of 9", 7);
        x.begin(6, 0, 9, 8).is(true);
        for (int i = 0; i < 7; i++) {
            x.work(1).is(1);
            x.clock().is(9 * i + 1);
        }
    }

    // "for each host the time FROM which it may be asked"
    private static void eachHostHasItsTime() {
        Run x = Webs.hosts(CHECKS, "15: each host has its time", 6);
        for (int host = 0; host <= 5; host++) {
            x.page(5 - host, 2).is(6 + host);
            x.link(0, 6 + host).is(host < 5);
        }
        x.link(1, 11).is(true);
        x.begin(1, 0, 9, 8).is(true);
        x.work(6).is(6);
        x.clock().is(6);
        // Hosts 0 .. 5 were asked at 0 .. 5; now host 5 at 14, host 4 at 15, and so on.
        for (int i = 0; i < 6; i++) {
            x.work(1).is(1);
            x.clock().is(15 + i);
        }
    }

    // Promises 16 to 18

    // "0 when none is under way"
    private static void fetchesWithoutGathering() {
        Run x = chain("16: none is under way", 2);
        x.fetches().is(0);
        x.begin(6, 0, 0, 8).is(true);
        x.fetches().is(0);
        x.work(10).is(2);
        x.fetches().is(2);
        x.crash().is(2);
        x.fetches().is(2);
        x.work(10).is(2);
        x.fetches().is(4);
        x.stop().is(true);
        x.fetches().is(0);
        x.begin(6, 0, 0, 8).is(true);
        x.fetches().is(0);
    }

    // "0 when no gathering is under way"
    private static void waitingWithoutGathering() {
        Run x = chain("17: no gathering is under way", 2);
        x.waiting().is(0);
        x.begin(6, 0, 0, 8).is(true);
        x.waiting().is(1);
        x.stop().is(true);
        x.waiting().is(0);
        x.begin(6, 0, 0, 8).is(true);
        x.waiting().is(1);
        x.work(10).is(2);
        x.waiting().is(0);
    }

    /** Six first pages that link to all 26 others, five at a time: more do not go into the queue. */
    private static Run fullWeb(String sentence) {
        Run x = Webs.pages(CHECKS, sentence, 32);
        for (int i = 6; i < 32; i++) {
            x.link((i - 6) / 5, i).is(true);
        }
        for (int p = 0; p < 6; p++) {
            x.first(p).is(true);
        }
        return x;
    }

    // "How many entries the queue has", all 32 pages being queued
    private static void waitingFull() {
        Run x = fullWeb("17: as many as can wait");
        x.begin(1, 0, 0, 8).is(true);
        x.waiting().is(6);
        for (int i = 1; i <= 5; i++) {
            x.work(1).is(1);
            x.waiting().is(6 + 4 * i);
        }
        // Page 5 has one link only: one entry goes and one comes.
        x.work(1).is(1);
        x.waiting().is(26);
        for (int i = 0; i < 2; i++) {
            x.work(10).is(10);
        }
        x.waiting().is(6);
        x.work(10).is(6);
        x.waiting().is(0);
        // 32 are handled, and a mark is set at each eighth.
        x.crash().is(0);
        x.waiting().is(0);
    }

    // "NONE when there is no such place, or no gathering is under way"
    private static void corpusNoSuchPlace() {
        Run x = chain("18: no such place", 3);
        x.corpusAt(0).is(NONE);
        x.begin(6, 0, 0, 8).is(true);
        x.work(10).is(3);
        for (int i : Outside.of(0, 2)) {
            x.corpusAt(i).is(NONE);
        }
        for (int i = 0; i < 3; i++) {
            x.corpusAt(i).is(i);
        }
        x.corpusAt(3).is(NONE);
        x.crash().is(3);
        x.corpusAt(0).is(NONE);
        x.work(1).is(1);
        x.corpusAt(0).is(0);
        x.corpusAt(1).is(NONE);
        x.stop().is(true);
        for (int i = -1; i <= 3; i++) {
            x.corpusAt(i).is(NONE);
        }
    }

    // "when there is no such place", the corpus being empty
    private static void corpusEmpty() {
        Run x = chain("18: the corpus is empty", 1);
        x.drop(0).is(true);
        x.begin(6, 0, 0, 8).is(true);
        for (int i = 0; i < 2; i++) {
            x.corpusAt(-1).is(NONE);
            x.corpusAt(0).is(NONE);
            x.corpusAt(1).is(NONE);
            x.corpusAt(Integer.MIN_VALUE).is(NONE);
            x.corpusAt(Integer.MAX_VALUE).is(NONE);
            x.work(10);
        }
        x.fetches().is(1);
    }

    // "when there is no such place", all 32 pages being in the corpus
    private static void corpusFull() {
        Run x = fullWeb("18: all pages are in the corpus");
        x.begin(1, 0, 0, 8).is(true);
        for (int i = 0; i < 4; i++) {
            x.work(8).is(8);
        }
        for (int i = 0; i < 32; i++) {
            x.corpusAt(i).is(i);
        }
        for (int i : Outside.of(0, 31)) {
            x.corpusAt(i).is(NONE);
        }
    }
}
