/**
 * Promises 12 and 16 at their edges: marks and crashes. For each sentence that names an edge, a test
 * of its own; the sentence stands above its test.
 */
public final class CrashBoundariesTest {
    private static final Checks CHECKS = new Checks();
    private static final int NONE = PoliteGatherer.NONE;

    public static void main(String[] args) {
        crashWithoutGathering();
        markWhenItBegins();
        markAtEachEntry();
        markEveryEight();
        markEveryOther();
        severalMarksInOneCall();
        noMarkBeforeEvery();
        markCountsEntriesWithoutFetches();
        markAtTheLastEntry();

        crashBringsBackTheQueue();
        crashBringsBackTheDepths();
        crashBringsBackTheQueued();
        crashBringsBackTheFetched();
        crashKeepsWhatWasFetchedAtTheMark();
        crashBringsBackTheCorpus();
        crashKeepsLimitAndHops();
        crashKeepsNow();

        crashDelaysEveryHost();
        crashDelaysJustBehindAMark();
        crashDelaysFromNow();
        crashWithDelayZero();
        crashBeforeAnyFetch();

        everyIsCountedAgain();
        crashAfterCrash();
        crashOnAnEmptyQueue();
        fetchesMadeUndone();
        CHECKS.end();
    }

    private static Run chain(String sentence, int pages) {
        return Webs.chain(CHECKS, sentence, pages);
    }

    // "Refused, NONE: no gathering is under way."
    private static void crashWithoutGathering() {
        Run x = chain("12: no gathering is under way", 2);
        x.crash().is(NONE);
        x.begin(6, 0, 0, 8).is(true);
        x.work(1).is(1);
        x.stop().is(true);
        x.crash().is(NONE);
        x.begin(6, 0, 0, 8).is(true);
        x.crash().is(0);
        x.work(10).is(2);
    }

    // "A mark is set when the gathering begins"
    private static void markWhenItBegins() {
        Run x = Webs.hosts(CHECKS, "12: a mark when it begins", 6);
        x.begin(0, 0, 0, 8).is(true);
        x.crash().is(0);
        x.waiting().is(6);
        for (int n = 1; n <= 6; n++) {
            x.work(n).is(n);
            x.crash().is(n);
            x.waiting().is(6);
            x.corpusAt(0).is(NONE);
        }
    }

    // "whenever EVERY entries were handled", EVERY being 1, the least
    private static void markAtEachEntry() {
        Run x = chain("12: every 1", 7);
        x.begin(6, 0, 0, 1).is(true);
        for (int i = 0; i < 7; i++) {
            x.work(1).is(1);
            x.crash().is(0);
            x.corpusAt(i).is(i);
            x.waiting().is(i < 6 ? 1 : 0);
        }
        x.fetches().is(7);
    }

    /** Six first pages, the last of which links to four more. */
    private static Run tenPages(String sentence) {
        Run x = Webs.pages(CHECKS, sentence, 10);
        for (int p = 0; p < 6; p++) {
            x.first(p).is(true);
        }
        for (int q = 6; q < 10; q++) {
            x.link(5, q).is(true);
        }
        return x;
    }

    // EVERY being 8, the greatest
    private static void markEveryEight() {
        for (int n = 1; n <= 10; n++) {
            Run x = tenPages("12: every 8, " + n + " handled");
            x.begin(1, 0, 0, 8).is(true);
            x.work(n).is(n);
            x.crash().is(n < 8 ? n : n - 8);
            x.corpusAt(0).is(n < 8 ? NONE : 0);
            x.corpusAt(7).is(n < 8 ? NONE : 7);
            x.corpusAt(8).is(NONE);
            x.waiting().is(n < 8 ? 6 : 2);
        }
    }

    // "whenever EVERY entries were handled since the mark before it", for each EVERY 1 .. 8
    private static void markEveryOther() {
        for (int every = 1; every <= 8; every++) {
            for (int n = 1; n <= 10; n++) {
                Run x = tenPages("12: every " + every + ", " + n + " handled");
                x.begin(1, 0, 0, every).is(true);
                for (int i = 0; i < n; i++) {
                    x.work(1).is(1);
                }
                x.crash().is(n % every);
                x.corpusAt(n - n % every).is(NONE);
                x.work(10).is(10 - (n - n % every));
                x.corpusAt(9).is(9);
            }
        }
    }

    // "whenever EVERY entries were handled", also several times within one call of work
    private static void severalMarksInOneCall() {
        Run x = tenPages("12: marks within a call");
        x.begin(1, 0, 0, 3).is(true);
        x.work(10).is(10);
        x.crash().is(1);
        x.waiting().is(1);
        x.corpusAt(8).is(8);
        x.corpusAt(9).is(NONE);
        x.stop().is(true);
        x.begin(1, 0, 0, 4).is(true);
        x.work(2).is(2);
        x.work(7).is(7);
        x.crash().is(1);
        x.corpusAt(7).is(7);
        x.corpusAt(8).is(NONE);
    }

    // "since the mark before it": a call that ends between marks sets none
    private static void noMarkBeforeEvery() {
        Run x = chain("12: no mark before EVERY", 7);
        x.begin(6, 0, 0, 4).is(true);
        x.work(1).is(1);
        x.work(1).is(1);
        x.work(1).is(1);
        x.crash().is(3);
        x.waiting().is(1);
        x.corpusAt(0).is(NONE);
    }

    // ".. entries were handled", whether or not something was fetched or found
    private static void markCountsEntriesWithoutFetches() {
        Run x = Webs.pages(CHECKS, "12: entries that fetch nothing count", 4);
        x.rule(0, 1, false).is(true);
        x.rule(0, 3, false).is(true);
        x.drop(1).is(true);
        for (int p = 0; p < 4; p++) {
            x.first(p).is(true);
        }
        x.begin(0, 0, 0, 3).is(true);
        x.work(2).is(1);
        x.crash().is(2);
        x.work(3).is(1);
        x.crash().is(0);
        x.work(1).is(1);
        x.crash().is(1);
        x.corpusAt(0).is(NONE);
        x.fetches().is(3);
    }

    // "whenever EVERY entries were handled", the queue being empty behind them
    private static void markAtTheLastEntry() {
        Run x = chain("12: a mark at the last entry", 4);
        x.begin(6, 0, 0, 4).is(true);
        x.work(10).is(4);
        x.crash().is(0);
        x.waiting().is(0);
        x.corpusAt(3).is(3);
        x.work(10).is(0);
        x.crash().is(0);
        x.fetches().is(4);
    }

    // "brings the queue .. back to what they were at the latest mark"
    private static void crashBringsBackTheQueue() {
        Run x = tenPages("12: the queue");
        x.begin(1, 0, 0, 4).is(true);
        x.work(4).is(4);
        x.waiting().is(2);
        x.work(3).is(3);
        x.waiting().is(3);
        x.crash().is(3);
        x.waiting().is(2);
        // In their order, with their depths: page 5 still has depth 0, and its links are followed.
        x.work(10).is(6);
        for (int i = 0; i < 10; i++) {
            x.corpusAt(i).is(i);
        }
    }

    // ".. the QUEUE, a row of ENTRIES (a page and its depth)"
    private static void crashBringsBackTheDepths() {
        for (int handled = 1; handled <= 3; handled++) {
            Run x = chain("12: the depths, " + handled + " handled", 6);
            x.begin(3, 0, 0, 8).is(true);
            x.work(handled).is(handled);
            x.crash().is(handled);
            x.work(10).is(4);
            x.corpusAt(3).is(3);
            x.corpusAt(4).is(NONE);
        }
    }

    // ".. the pages queued .."
    private static void crashBringsBackTheQueued() {
        Run x = chain("12: the pages queued", 3);
        x.begin(6, 0, 0, 2).is(true);
        x.work(1).is(1);
        x.waiting().is(1);
        x.crash().is(1);
        x.work(1).is(1);
        // Page 1 was queued since the mark, so it can be queued again.
        x.waiting().is(1);
        x.work(1).is(1);
        x.crash().is(0);
        // Page 2 was queued before the mark, and stays so.
        x.waiting().is(1);
        x.work(10).is(1);
        x.waiting().is(0);
    }

    // ".. and fetched .."
    private static void crashBringsBackTheFetched() {
        Run x = chain("12: the pages fetched", 4);
        x.move(1, 3).is(true);
        x.begin(6, 1, 0, 8).is(true);
        x.work(2).is(3);
        x.crash().is(2);
        x.work(2).is(3);
        x.fetches().is(6);
        x.clock().is(6);
    }

    // "back to what they were at the latest mark": what was fetched then stays so
    private static void crashKeepsWhatWasFetchedAtTheMark() {
        Run x = Webs.pages(CHECKS, "12: fetched at the mark", 3);
        x.move(0, 2).is(true);
        x.move(1, 2).is(true);
        for (int p = 0; p < 3; p++) {
            x.first(p).is(true);
        }
        x.begin(0, 1, 0, 1).is(true);
        x.work(1).is(2);
        x.crash().is(0);
        x.work(1).is(1);
        x.crash().is(0);
        x.work(1).is(0);
        x.fetches().is(3);
    }

    // ".. and the corpus .."
    private static void crashBringsBackTheCorpus() {
        Run x = chain("12: the corpus", 4);
        for (int p = 0; p < 4; p++) {
            x.write(p, 1).is(true);
            x.write(p, 2 + p).is(true);
        }
        x.begin(6, 0, 0, 2).is(true);
        x.work(3).is(3);
        x.document(2).is(2);
        x.rank(2, 1).is(1000000);
        x.best(1, 1, 2).is(0);
        x.crash().is(1);
        x.corpusAt(1).is(1);
        x.corpusAt(2).is(NONE);
        x.document(2).is(NONE);
        x.rank(2, 1).is(0);
        x.best(1, 1, 1).is(0);
        x.best(1, 1, 2).is(NONE);
        x.work(1).is(1);
        x.corpusAt(2).is(2);
        x.corpusAt(3).is(NONE);
    }

    // A crash brings back nothing else: "A GATHERING has a LIMIT of depth, a number of hops"
    private static void crashKeepsLimitAndHops() {
        Run x = chain("12: limit and hops stay", 5);
        x.move(1, 2).is(true);
        x.begin(2, 1, 0, 8).is(true);
        x.work(10).is(4);
        x.crash().is(3);
        x.found(1).is(2);
        x.work(10).is(4);
        x.corpusAt(0).is(0);
        x.corpusAt(1).is(2);
        x.corpusAt(2).is(3);
        x.corpusAt(3).is(NONE);
    }

    // "NOW stays"
    private static void crashKeepsNow() {
        Run x = chain("12: NOW stays", 3);
        x.begin(6, 0, 4, 8).is(true);
        x.work(3).is(3);
        x.clock().is(9);
        x.crash().is(3);
        x.clock().is(9);
        x.crash().is(0);
        x.clock().is(9);
    }

    // "the time FROM of every host becomes NOW + delay"
    private static void crashDelaysEveryHost() {
        for (int host = 0; host <= 5; host++) {
            Run x = new Run(CHECKS, "12: host " + host + " waits too");
            x.page(0, 1).is(0);
            x.page(host, 2).is(1);
            x.first(0).is(true);
            x.first(1).is(true);
            x.begin(0, 0, 5, 1).is(true);
            x.work(1).is(1);
            x.clock().is(1);
            x.crash().is(0);
            x.work(1).is(1);
            x.clock().is(7);
        }
        Run y = Webs.hosts(CHECKS, "12: each host waits once", 6);
        y.begin(0, 0, 5, 8).is(true);
        y.work(6).is(6);
        y.crash().is(6);
        // All may be asked from 11: the first one waits till then, the others find NOW behind it.
        for (int i = 0; i < 6; i++) {
            y.work(1).is(1);
            y.clock().is(12 + i);
        }
    }

    // "(also just behind a mark: times FROM change all the same)"
    private static void crashDelaysJustBehindAMark() {
        Run x = chain("12: just behind a mark", 4);
        x.begin(6, 0, 3, 2).is(true);
        x.crash().is(0);
        x.clock().is(0);
        x.work(1).is(1);
        x.clock().is(4);
        x.work(1).is(1);
        x.clock().is(7);
        x.crash().is(0);
        // Without the crash host 0 could be asked from 9.
        x.work(1).is(1);
        x.clock().is(11);
        x.fetches().is(3);
    }

    // NOW + delay, not the time FROM + delay, nor the time of the mark
    private static void crashDelaysFromNow() {
        Run x = chain("12: NOW + delay", 3);
        x.begin(6, 0, 9, 8).is(true);
        x.work(1).is(1);
        x.crash().is(1);
        x.crash().is(0);
        x.crash().is(0);
        x.work(1).is(1);
        x.clock().is(11);
        x.work(1).is(1);
        x.clock().is(20);
        x.crash().is(2);
        x.work(2).is(2);
        x.clock().is(39);
    }

    // "becomes NOW + delay", the delay being 0
    private static void crashWithDelayZero() {
        Run x = Webs.hosts(CHECKS, "12: a delay of 0", 2);
        x.begin(0, 0, 0, 8).is(true);
        x.crash().is(0);
        x.work(1).is(1);
        x.clock().is(1);
        x.crash().is(1);
        x.work(2).is(2);
        x.clock().is(3);
    }

    // "becomes NOW + delay", NOW being 0
    private static void crashBeforeAnyFetch() {
        Run x = Webs.hosts(CHECKS, "12: before any fetch", 2);
        x.begin(0, 0, 9, 8).is(true);
        x.crash().is(0);
        x.clock().is(0);
        x.fetches().is(0);
        x.waiting().is(2);
        x.work(1).is(1);
        x.clock().is(10);
        x.work(1).is(1);
        x.clock().is(11);
    }

    // "(EVERY is counted from that mark again.)"
    private static void everyIsCountedAgain() {
        Run x = chain("12: every is counted again", 7);
        x.begin(6, 0, 0, 3).is(true);
        x.work(2).is(2);
        x.crash().is(2);
        x.work(1).is(1);
        // Three were handled in all, but one since the mark.
        x.crash().is(1);
        x.work(2).is(2);
        x.crash().is(2);
        x.work(3).is(3);
        x.crash().is(0);
        x.work(2).is(2);
        x.crash().is(2);
        x.work(4).is(4);
        x.crash().is(1);
        x.corpusAt(5).is(5);
        x.corpusAt(6).is(NONE);
    }

    // "at the latest mark", which a crash does not take away
    private static void crashAfterCrash() {
        Run x = chain("12: a crash after a crash", 3);
        x.begin(6, 0, 2, 2).is(true);
        x.work(3).is(3);
        x.crash().is(1);
        x.crash().is(0);
        x.crash().is(0);
        // The latest mark stays the latest: no crash goes back behind it.
        x.corpusAt(1).is(1);
        x.corpusAt(2).is(NONE);
        x.waiting().is(1);
        x.work(10).is(1);
        x.crash().is(1);
        x.corpusAt(1).is(1);
    }

    // "Answers how many entries were handled since the latest mark", the queue being empty
    private static void crashOnAnEmptyQueue() {
        Run x = chain("12: on an empty queue", 3);
        x.begin(6, 0, 0, 2).is(true);
        x.work(10).is(3);
        x.work(10).is(0);
        x.waiting().is(0);
        x.crash().is(1);
        x.waiting().is(1);
        x.work(10).is(1);
        x.waiting().is(0);
        x.crash().is(1);
    }

    // Promise 16: "those fetches included that a crash made undone"
    private static void fetchesMadeUndone() {
        Run x = chain("16: fetches made undone", 2);
        x.begin(6, 0, 0, 8).is(true);
        for (int i = 1; i <= 20; i++) {
            x.work(10).is(2);
            x.fetches().is(2 * i);
            x.crash().is(2);
            x.fetches().is(2 * i);
        }
        x.clock().is(40);
    }
}
