/**
 * Promises 1 to 6 and 8 at their edges: for each sentence that names one, a test of its own. The
 * sentence stands above its test.
 */
public final class WebBoundariesTest {
    private static final Checks CHECKS = new Checks();
    private static final int NONE = PoliteGatherer.NONE;

    public static void main(String[] args) {
        newObjectHasNoPages();
        newObjectHasNoRules();
        newObjectHasNoFirstPages();
        newObjectHasNoGathering();
        newObjectsShareNothing();

        pageHost();
        pagePath();
        pageHostAndPath();
        pageThere();
        pageFull();
        pageUnderWay();
        pageIsNew();

        writeWord();
        writeNoPage();
        writeFull();
        writeFullIsOfOnePage();
        writeUnderWay();

        linkNoPage();
        linkFull();
        linkFullIsOfOnePage();
        linkSeveralTimes();
        linkToItself();
        linkUnderWay();

        moveNoPage();
        moveToItself();
        moveIsHereNoMore();
        moveOfWhatWasMovedOrGone();
        moveUnderWay();

        dropNoPage();
        dropOfWhatWasMovedOrGone();
        dropUnderWay();

        firstNoPage();
        firstFull();
        firstStandsThereAlready();
        firstUnderWay();
        CHECKS.end();
    }

    private static Run run(String sentence) {
        return new Run(CHECKS, sentence);
    }

    private static Run webOf(String sentence, int pages) {
        return Webs.pages(CHECKS, sentence, pages);
    }

    /** Gathers the first pages with all hops, and the pages that these link to. */
    private static void gather(Run x) {
        x.begin(1, 4, 0, 8).is(true);
        x.work(10);
        x.work(10);
    }

    // Promise 1

    // "A web without pages .."
    private static void newObjectHasNoPages() {
        Run x = run("1: without pages");
        for (int p : new int[] {0, 1, 31, 32, NONE, Integer.MIN_VALUE, Integer.MAX_VALUE}) {
            x.allowed(p).is(false);
            x.write(p, 0).is(false);
            x.link(p, p).is(false);
            x.move(p, p).is(false);
            x.drop(p).is(false);
            x.first(p).is(false);
        }
        x.page(0, 1).is(0);
    }

    // ".. rules .."
    private static void newObjectHasNoRules() {
        Run x = run("1: without rules");
        for (int host = 0; host <= 5; host++) {
            x.page(host, 1).is(host);
            x.allowed(host).is(true);
        }
        for (int host = 0; host <= 5; host++) {
            for (int i = 0; i < 4; i++) {
                x.rule(host, 2, false).is(true);
            }
            x.rule(host, 2, false).is(false);
            x.allowed(host).is(true);
        }
    }

    // ".. and first pages; .."
    private static void newObjectHasNoFirstPages() {
        Run x = webOf("1: without first pages", 1);
        x.begin(0, 0, 0, 1).is(false);
        for (int i = 0; i < 6; i++) {
            x.first(0).is(true);
        }
        x.first(0).is(false);
    }

    // ".. no gathering."
    private static void newObjectHasNoGathering() {
        Run x = run("1: no gathering");
        x.stop().is(false);
        x.work(1).is(NONE);
        x.work(10).is(NONE);
        x.crash().is(NONE);
        x.found(0).is(NONE);
        x.clock().is(0);
        x.fetches().is(0);
        x.waiting().is(0);
        x.corpusAt(0).is(NONE);
        x.document(0).is(NONE);
        x.rank(0, 0).is(0);
        x.best(0, 0, 0).is(NONE);
    }

    // A new object is new whatever was done with another.
    private static void newObjectsShareNothing() {
        Run x = webOf("1: one object", 32);
        x.rule(0, 0, false).is(true);
        x.first(0).is(true);
        x.begin(0, 0, 0, 1).is(true);
        Run y = run("1: another object");
        y.clock().is(0);
        y.stop().is(false);
        y.begin(0, 0, 0, 1).is(false);
        y.page(0, 1).is(0);
        y.allowed(0).is(true);
        y.allowed(1).is(false);
        x.page(0, 33).is(NONE);
        x.waiting().is(1);
    }

    // Promise 2

    // "Refused, NONE: .. host .. is out of range"; "A page has a HOST 0 .. 5"
    private static void pageHost() {
        Run x = run("2: host is out of range");
        int pages = 0;
        for (int host = 0; host <= 5; host++) {
            x.page(host, 1).is(pages);
            pages++;
        }
        for (int host : Outside.of(0, 5)) {
            x.page(host, 2).is(NONE);
        }
        x.allowed(pages).is(false);
        x.page(0, 2).is(pages);
        x.page(5, 2).is(pages + 1);
    }

    // "Refused, NONE: .. path is out of range"; "and a PATH 1 .. 999999"
    private static void pagePath() {
        Run x = run("2: path is out of range");
        int[] within = {1, 2, 9, 10, 99, 100, 65536, 100000, 999998, 999999};
        for (int i = 0; i < within.length; i++) {
            x.page(0, within[i]).is(i);
        }
        for (int path : Outside.of(1, 999999)) {
            x.page(0, path).is(NONE);
        }
        x.allowed(within.length).is(false);
        x.page(5, 999999).is(within.length);
    }

    // "host or path is out of range"
    private static void pageHostAndPath() {
        Run x = run("2: host and path are out of range");
        for (int host : Outside.of(0, 5)) {
            x.page(host, 0).is(NONE);
            x.page(host, 1000000).is(NONE);
        }
        x.page(Integer.MIN_VALUE, Integer.MIN_VALUE).is(NONE);
        x.page(Integer.MAX_VALUE, Integer.MAX_VALUE).is(NONE);
        x.page(0, 1).is(0);
    }

    // "a page with this host and path is there"
    private static void pageThere() {
        Run x = run("2: a page with this host and path is there");
        x.page(0, 1).is(0);
        x.page(0, 1).is(NONE);
        x.page(1, 1).is(1);
        x.page(0, 2).is(2);
        x.page(5, 999999).is(3);
        x.page(5, 999999).is(NONE);
        x.page(4, 999999).is(4);
        x.page(5, 999998).is(5);
        x.page(0, 1).is(NONE);
        x.page(1, 1).is(NONE);
        x.drop(0).is(true);
        x.move(1, 1).is(true);
        // A page that is gone or moved is there all the same.
        x.page(0, 1).is(NONE);
        x.page(1, 1).is(NONE);
        x.page(1, 2).is(6);
    }

    // "32 pages are there"; "numbered 0, 1, .. as they are added, at most 32"
    private static void pageFull() {
        Run x = webOf("2: 32 pages are there", 31);
        x.allowed(31).is(false);
        x.page(5, 1).is(31);
        x.allowed(31).is(true);
        x.page(0, 1).is(NONE);
        x.page(5, 1).is(NONE);
        x.page(6, 0).is(NONE);
        x.page(5, 2).is(NONE);
        x.allowed(32).is(false);
        x.first(32).is(false);
        x.first(31).is(true);
        x.link(31, 31).is(true);
        x.write(31, 25).is(true);
        gather(x);
        x.corpusAt(0).is(31);
        x.document(31).is(31);
        x.rank(31, 1).is(1000000);
        x.best(25, 25, 0).is(31);
        x.page(5, 2).is(NONE);
        x.stop().is(true);
        x.page(5, 2).is(NONE);
        // The last page is the one that was added: a rule that bars it shows its host and path.
        x.rule(5, 1, false).is(true);
        x.allowed(31).is(false);
    }

    // "Refused, NONE: a gathering is under way"
    private static void pageUnderWay() {
        Run x = webOf("2: a gathering is under way", 1);
        x.first(0).is(true);
        x.begin(0, 0, 0, 1).is(true);
        x.page(1, 1).is(NONE);
        x.work(10).is(1);
        x.page(1, 1).is(NONE);
        x.crash().is(0);
        x.page(1, 1).is(NONE);
        x.allowed(1).is(false);
        x.stop().is(true);
        x.page(1, 1).is(1);
    }

    // "Adds a page that is HERE, with an empty body and no links."
    private static void pageIsNew() {
        Run x = webOf("2: here, with an empty body and no links", 2);
        x.first(0).is(true);
        x.first(1).is(true);
        x.begin(6, 0, 0, 8).is(true);
        x.found(1).is(1);
        x.work(10).is(2);
        x.waiting().is(0);
        x.document(1).is(0);
        x.rank(0, 1).is(150000);
        for (int word = -1; word <= 26; word++) {
            x.best(word, word, 0).is(NONE);
        }
    }

    // Promise 3

    // "word is not 0 .. 25"
    private static void writeWord() {
        Run x = webOf("3: word is not 0 .. 25", 4);
        for (int word : Outside.of(0, 25)) {
            x.write(0, word).is(false);
        }
        for (int word = 0; word <= 25; word++) {
            x.write(word / 8, word).is(true);
        }
        for (int p = 0; p < 4; p++) {
            x.first(p).is(true);
        }
        gather(x);
        for (int word = 0; word <= 25; word++) {
            x.best(word, word, 0).is(word / 8);
            x.best(word, word, 1).is(NONE);
        }
        for (int word : Outside.of(0, 25)) {
            x.best(word, word, 0).is(NONE);
        }
    }

    // "p is no page"
    private static void writeNoPage() {
        Run x = webOf("3: p is no page", 3);
        for (int p : Outside.of(0, 2)) {
            x.write(p, 4).is(false);
        }
        x.write(32, 4).is(false);
        x.write(0, 4).is(true);
        x.write(2, 5).is(true);
        for (int p = 0; p < 3; p++) {
            x.first(p).is(true);
        }
        gather(x);
        x.best(4, 4, 0).is(0);
        x.best(4, 4, 1).is(NONE);
        x.best(5, 5, 0).is(2);
        x.best(5, 5, 1).is(NONE);
    }

    // "the body has 8 words"; "Adds a word at the end"
    private static void writeFull() {
        Run x = webOf("3: the body has 8 words", 3);
        for (int i = 0; i < 7; i++) {
            x.write(0, 1).is(true);
            x.write(1, 1).is(true);
        }
        x.write(0, 2).is(true);
        x.write(0, 2).is(false);
        x.write(0, 26).is(false);
        x.write(0, 1).is(false);
        x.write(0, 3).is(false);
        x.first(0).is(true);
        x.first(1).is(true);
        gather(x);
        x.best(3, 3, 0).is(NONE);
        x.best(2, 2, 0).is(0);
        x.best(2, 2, 1).is(NONE);
        // Seven places each: the lesser path is first; with the 8th word page 0 has one more.
        x.best(1, 1, 0).is(0);
        x.best(1, 1, 1).is(1);
        x.document(1).is(1);
        x.stop().is(true);
        x.write(1, 2).is(true);
        x.write(1, 2).is(false);
        gather(x);
        // Only if the refused words left no trace, both bodies are the same now.
        x.document(1).is(0);
    }

    // "(a row of at most 8 WORDS ..)" is said of each page
    private static void writeFullIsOfOnePage() {
        Run x = webOf("3: each page has its own 8 words", 32);
        for (int i = 0; i < 8; i++) {
            x.write(0, 7).is(true);
            x.write(30, 7).is(true);
            x.write(31, 7).is(true);
        }
        x.write(0, 7).is(false);
        x.write(30, 7).is(false);
        x.write(31, 7).is(false);
        x.write(1, 7).is(true);
        x.write(29, 7).is(true);
    }

    // "Refused, false: a gathering is under way"
    private static void writeUnderWay() {
        Run x = webOf("3: a gathering is under way", 1);
        x.first(0).is(true);
        x.begin(0, 0, 0, 8).is(true);
        x.write(0, 9).is(false);
        x.work(10).is(1);
        x.write(0, 9).is(false);
        x.best(9, 9, 0).is(NONE);
        x.stop().is(true);
        for (int i = 0; i < 8; i++) {
            x.write(0, 9).is(true);
        }
        x.write(0, 9).is(false);
    }

    // Promise 4

    // "p or q is no page"
    private static void linkNoPage() {
        Run x = webOf("4: p or q is no page", 3);
        for (int wrong : Outside.of(0, 2)) {
            x.link(wrong, 0).is(false);
            x.link(wrong, 2).is(false);
            x.link(0, wrong).is(false);
            x.link(2, wrong).is(false);
            x.link(wrong, wrong).is(false);
        }
        x.link(32, 0).is(false);
        x.link(0, 32).is(false);
        x.first(0).is(true);
        x.begin(6, 0, 0, 8).is(true);
        x.work(10).is(1);
        x.stop().is(true);
        x.link(2, 0).is(true);
        for (int i = 0; i < 5; i++) {
            x.link(0, 2).is(true);
        }
        x.link(0, 2).is(false);
        x.begin(6, 0, 0, 8).is(true);
        x.work(10).is(2);
        x.corpusAt(1).is(2);
    }

    // "p has 5 links"
    private static void linkFull() {
        Run x = webOf("4: p has 5 links", 8);
        for (int q = 5; q >= 1; q--) {
            x.link(0, q).is(true);
        }
        x.link(0, 6).is(false);
        x.link(0, 0).is(false);
        x.link(0, 5).is(false);
        x.link(0, 8).is(false);
        x.first(0).is(true);
        gather(x);
        x.fetches().is(6);
        for (int i = 1; i <= 5; i++) {
            x.corpusAt(i).is(6 - i);
        }
        x.corpusAt(6).is(NONE);
    }

    // "at most 5 LINKS" is said of each page, and of the links from it alone
    private static void linkFullIsOfOnePage() {
        Run x = webOf("4: each page has its own 5 links", 32);
        for (int i = 0; i < 5; i++) {
            x.link(0, 31).is(true);
            x.link(30, 31).is(true);
            x.link(31, 31).is(true);
        }
        x.link(0, 31).is(false);
        x.link(30, 31).is(false);
        x.link(31, 31).is(false);
        x.link(1, 31).is(true);
        x.link(29, 31).is(true);
    }

    // "a page may be linked to several times .."
    private static void linkSeveralTimes() {
        Run x = webOf("4: linked to several times", 3);
        x.write(1, 1).is(true);
        x.write(2, 2).is(true);
        for (int i = 0; i < 4; i++) {
            x.link(0, 1).is(true);
        }
        x.link(0, 2).is(true);
        x.link(0, 1).is(false);
        x.first(0).is(true);
        gather(x);
        x.fetches().is(3);
        // Each of the five links passes on 200000, and four of them lead to page 1.
        x.rank(1, 1).is(150000 + 680000);
        x.rank(2, 1).is(150000 + 170000);
    }

    // ".. and to itself"
    private static void linkToItself() {
        Run x = webOf("4: linked to itself", 1);
        for (int i = 0; i < 5; i++) {
            x.link(0, 0).is(true);
        }
        x.link(0, 0).is(false);
        x.first(0).is(true);
        x.begin(6, 0, 0, 8).is(true);
        x.work(10).is(1);
        x.waiting().is(0);
        x.corpusAt(1).is(NONE);
        x.rank(0, 12).is(1000000);
    }

    // "Refused, false: a gathering is under way"
    private static void linkUnderWay() {
        Run x = webOf("4: a gathering is under way", 2);
        x.first(0).is(true);
        x.begin(6, 0, 0, 8).is(true);
        x.link(0, 1).is(false);
        x.work(10).is(1);
        x.link(0, 1).is(false);
        x.stop().is(true);
        x.begin(6, 0, 0, 8).is(true);
        x.work(10).is(1);
        x.stop().is(true);
        for (int i = 0; i < 5; i++) {
            x.link(0, 1).is(true);
        }
        x.begin(6, 0, 0, 8).is(true);
        x.work(10).is(2);
    }

    // Promise 5

    // "p or q is no page"
    private static void moveNoPage() {
        Run x = webOf("5: p or q is no page", 3);
        x.move(1, 0).is(true);
        for (int wrong : Outside.of(0, 2)) {
            x.move(wrong, 0).is(false);
            x.move(wrong, 2).is(false);
            x.move(0, wrong).is(false);
            x.move(1, wrong).is(false);
            x.move(wrong, wrong).is(false);
        }
        x.move(32, 0).is(false);
        x.move(0, 32).is(false);
        x.first(0).is(true);
        x.begin(0, 4, 0, 1).is(true);
        x.found(0).is(0);
        x.found(1).is(0);
        x.found(2).is(2);
        x.stop().is(true);
        x.move(0, 2).is(true);
        x.begin(0, 4, 0, 1).is(true);
        x.found(1).is(2);
    }

    // "MOVED to page q (which may be p)"
    private static void moveToItself() {
        Run x = webOf("5: moved to itself", 2);
        x.move(1, 1).is(true);
        x.link(1, 0).is(true);
        x.first(1).is(true);
        for (int hops = 0; hops <= 4; hops++) {
            x.begin(6, hops, 9, 1).is(true);
            x.found(1).is(NONE);
            // It is looked at again and again, but fetched once.
            x.work(10).is(1);
            x.clock().is(1);
            x.corpusAt(0).is(NONE);
            x.stop().is(true);
        }
    }

    // "HERE it is no more then"
    private static void moveIsHereNoMore() {
        Run x = webOf("5: here no more", 2);
        x.first(0).is(true);
        x.begin(0, 0, 0, 1).is(true);
        x.found(0).is(0);
        x.stop().is(true);
        x.move(0, 1).is(true);
        x.begin(0, 0, 0, 1).is(true);
        x.found(0).is(NONE);
        x.work(10).is(1);
        x.corpusAt(0).is(NONE);
        x.stop().is(true);
        x.begin(0, 1, 0, 1).is(true);
        x.found(0).is(1);
        x.work(10).is(2);
        x.corpusAt(0).is(1);
    }

    // "The reply of page p becomes MOVED", whatever it was
    private static void moveOfWhatWasMovedOrGone() {
        Run x = webOf("5: of what was moved or gone", 4);
        x.move(0, 1).is(true);
        x.move(0, 2).is(true);
        x.drop(3).is(true);
        x.move(3, 2).is(true);
        x.first(0).is(true);
        x.begin(0, 1, 0, 1).is(true);
        x.found(0).is(2);
        x.found(3).is(2);
        x.stop().is(true);
        x.move(0, 0).is(true);
        x.begin(0, 1, 0, 1).is(true);
        x.found(0).is(NONE);
    }

    // "Refused, false: a gathering is under way"
    private static void moveUnderWay() {
        Run x = webOf("5: a gathering is under way", 3);
        x.move(2, 0).is(true);
        x.first(0).is(true);
        x.begin(0, 4, 0, 1).is(true);
        x.move(0, 1).is(false);
        x.move(2, 1).is(false);
        x.found(0).is(0);
        x.found(2).is(0);
        x.stop().is(true);
        x.begin(0, 4, 0, 1).is(true);
        x.found(0).is(0);
        x.found(2).is(0);
        x.stop().is(true);
        x.move(0, 1).is(true);
    }

    // Promise 6

    // "p is no page"
    private static void dropNoPage() {
        Run x = webOf("6: p is no page", 3);
        for (int p : Outside.of(0, 2)) {
            x.drop(p).is(false);
        }
        x.drop(32).is(false);
        x.first(0).is(true);
        x.begin(0, 0, 0, 1).is(true);
        x.found(0).is(0);
        x.found(2).is(2);
        x.stop().is(true);
        x.drop(0).is(true);
        x.drop(2).is(true);
        x.begin(0, 0, 0, 1).is(true);
        x.found(0).is(NONE);
        x.found(1).is(1);
        x.found(2).is(NONE);
    }

    // "The reply of page p becomes GONE", whatever it was
    private static void dropOfWhatWasMovedOrGone() {
        Run x = webOf("6: of what was moved or gone", 3);
        x.move(0, 1).is(true);
        x.drop(0).is(true);
        x.drop(2).is(true);
        x.drop(2).is(true);
        x.first(0).is(true);
        x.begin(0, 4, 0, 1).is(true);
        x.found(0).is(NONE);
        x.found(1).is(1);
        x.found(2).is(NONE);
        // Where it was moved to is not looked at any more.
        x.work(10).is(1);
        x.corpusAt(0).is(NONE);
    }

    // "Refused, false: a gathering is under way"
    private static void dropUnderWay() {
        Run x = webOf("6: a gathering is under way", 1);
        x.first(0).is(true);
        x.begin(0, 0, 0, 1).is(true);
        x.drop(0).is(false);
        x.found(0).is(0);
        x.work(10).is(1);
        x.drop(0).is(false);
        x.corpusAt(0).is(0);
        x.stop().is(true);
        x.begin(0, 0, 0, 1).is(true);
        x.found(0).is(0);
        x.stop().is(true);
        x.drop(0).is(true);
    }

    // Promise 8

    // "p is no page"
    private static void firstNoPage() {
        Run x = webOf("8: p is no page", 3);
        for (int p : Outside.of(0, 2)) {
            x.first(p).is(false);
        }
        x.first(32).is(false);
        x.begin(0, 0, 0, 1).is(false);
        x.first(2).is(true);
        x.first(0).is(true);
        gather(x);
        x.corpusAt(0).is(2);
        x.corpusAt(1).is(0);
        x.corpusAt(2).is(NONE);
    }

    // "6 are there"
    private static void firstFull() {
        Run x = webOf("8: 6 are there", 8);
        for (int p = 6; p >= 1; p--) {
            x.first(p).is(true);
        }
        x.first(0).is(false);
        x.first(7).is(false);
        x.first(6).is(false);
        x.first(8).is(false);
        x.begin(0, 0, 0, 1).is(true);
        x.waiting().is(6);
        x.work(10).is(6);
        for (int i = 0; i < 6; i++) {
            x.corpusAt(i).is(6 - i);
        }
        x.corpusAt(6).is(NONE);
        x.stop().is(true);
        // The first pages stay, and so does their number.
        x.first(0).is(false);
    }

    // "(it may stand there already)"
    private static void firstStandsThereAlready() {
        Run x = webOf("8: it may stand there already", 3);
        x.first(1).is(true);
        x.first(1).is(true);
        x.first(0).is(true);
        x.first(1).is(true);
        x.first(0).is(true);
        x.first(1).is(true);
        x.first(2).is(false);
        x.first(1).is(false);
        x.begin(0, 0, 0, 1).is(true);
        x.waiting().is(2);
        x.work(10).is(2);
        x.corpusAt(0).is(1);
        x.corpusAt(1).is(0);
        x.corpusAt(2).is(NONE);
    }

    // "Refused, false: a gathering is under way"
    private static void firstUnderWay() {
        Run x = webOf("8: a gathering is under way", 2);
        x.first(0).is(true);
        x.begin(0, 0, 0, 1).is(true);
        x.first(1).is(false);
        x.first(0).is(false);
        x.waiting().is(1);
        x.work(10).is(1);
        x.first(1).is(false);
        x.stop().is(true);
        x.begin(0, 0, 0, 1).is(true);
        x.waiting().is(1);
        x.stop().is(true);
        for (int i = 0; i < 5; i++) {
            x.first(1).is(true);
        }
        x.first(1).is(false);
    }
}
