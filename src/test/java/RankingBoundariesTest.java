/**
 * Promises 19 to 21 at their edges: for each sentence that names one, a test of its own. The sentence
 * stands above its test.
 */
public final class RankingBoundariesTest {
    private static final Checks CHECKS = new Checks();
    private static final int NONE = PoliteGatherer.NONE;

    public static void main(String[] args) {
        documentNotInTheCorpus();
        documentWithoutGathering();
        documentOfEmptyBodies();
        documentOfFullBodies();
        documentOfTheSameWordsInAnotherOrder();
        documentOfALongerBody();
        documentThatStandsFirst();
        documentAfterCrash();

        rankRounds();
        rankOfNoDocument();
        rankWithoutGathering();
        rankAfterNoRounds();
        rankWithoutLinks();
        rankWithLinksThatLeadNowhere();
        rankOfEachLink();
        rankOfItself();
        rankSharesAreRoundedDown();
        rankIsRoundedDown();
        rankOfADocumentCountsOnly();
        rankLeadsToTheDocument();
        rankLeadsWithinTheHops();
        rankOfBarredAndGone();
        rankBeyondAnInt();

        bestNoSuchPlace();
        bestWithoutGathering();
        bestOfAnEmptyCorpus();
        bestScoreAboveZero();
        bestOfTheSameWord();
        bestAPlaceCountsOnce();
        bestAfterEightRounds();
        bestOfWordsThatAreNone();
        bestOfFullBodies();
        bestGreaterScoreFirst();
        bestLesserHostFirst();
        bestLesserPathFirst();
        bestOfDocumentsOnly();
        bestOfAllPages();
        CHECKS.end();
    }

    private static Run pages(String sentence, int pages) {
        return Webs.pages(CHECKS, sentence, pages);
    }

    private static void write(Run x, int p, int... words) {
        for (int word : words) {
            x.write(p, word).is(true);
        }
    }

    /** Gathers the pages named, in their order, without following their links. */
    private static void gather(Run x, int hops, int... firsts) {
        for (int p : firsts) {
            x.first(p).is(true);
        }
        x.begin(0, hops, 0, 8).is(true);
        x.work(10);
    }

    // Promise 19

    // "NONE when p is not in the corpus"
    private static void documentNotInTheCorpus() {
        Run x = pages("19: not in the corpus", 7);
        x.move(1, 0).is(true);
        x.drop(2).is(true);
        x.rule(0, 4, false).is(true);
        for (int p : new int[] {0, 1, 2, 3, 5}) {
            x.first(p).is(true);
        }
        x.begin(0, 1, 0, 8).is(true);
        x.document(0).is(NONE);
        x.work(4).is(3);
        x.document(0).is(0);
        // What was moved, is gone, is barred, waits, or was never queued.
        for (int p = 1; p < 7; p++) {
            x.document(p).is(NONE);
        }
        for (int p : Outside.of(0, 6)) {
            x.document(p).is(NONE);
        }
        x.document(31).is(NONE);
        x.document(32).is(NONE);
    }

    // "or no gathering is under way"
    private static void documentWithoutGathering() {
        Run x = pages("19: no gathering is under way", 1);
        x.document(0).is(NONE);
        gather(x, 0, 0);
        x.document(0).is(0);
        x.stop().is(true);
        x.document(0).is(NONE);
        x.document(NONE).is(NONE);
        x.document(Integer.MIN_VALUE).is(NONE);
        x.document(Integer.MAX_VALUE).is(NONE);
    }

    // "with the same body", bodies of no words being the same too
    private static void documentOfEmptyBodies() {
        Run x = pages("19: empty bodies", 3);
        write(x, 1, 0);
        gather(x, 0, 0, 1, 2);
        x.document(0).is(0);
        x.document(1).is(1);
        x.document(2).is(0);
    }

    // "with the same body", bodies of 8 words
    private static void documentOfFullBodies() {
        Run x = pages("19: bodies of eight words", 6);
        write(x, 0, 25, 24, 0, 1, 2, 3, 4, 5);
        write(x, 1, 25, 24, 0, 1, 2, 3, 4, 5);
        write(x, 2, 25, 24, 0, 1, 2, 3, 4, 6);
        write(x, 3, 24, 24, 0, 1, 2, 3, 4, 5);
        write(x, 4, 25, 24, 0, 1, 2, 3, 4);
        write(x, 5, 25, 24, 0, 1, 3, 3, 4, 5);
        gather(x, 0, 0, 1, 2, 3, 4, 5);
        x.document(0).is(0);
        x.document(1).is(0);
        x.document(2).is(2);
        x.document(3).is(3);
        x.document(4).is(4);
        x.document(5).is(5);
    }

    // "(the same words in the same order)"
    private static void documentOfTheSameWordsInAnotherOrder() {
        Run x = pages("19: another order", 4);
        write(x, 0, 1, 2, 2);
        write(x, 1, 2, 1, 2);
        write(x, 2, 2, 2, 1);
        write(x, 3, 2, 1, 2);
        gather(x, 0, 0, 1, 2, 3);
        x.document(0).is(0);
        x.document(1).is(1);
        x.document(2).is(2);
        x.document(3).is(1);
    }

    // "(the same words in the same order)", where one body begins as the other
    private static void documentOfALongerBody() {
        Run x = pages("19: one begins as the other", 4);
        write(x, 0, 0, 0);
        write(x, 1, 0);
        write(x, 2, 0, 0, 0);
        gather(x, 0, 0, 1, 2, 3);
        for (int p = 0; p < 4; p++) {
            x.document(p).is(p);
        }
    }

    // "that stands first there, perhaps itself"
    private static void documentThatStandsFirst() {
        Run x = pages("19: stands first there", 4);
        gather(x, 0, 3, 1, 2);
        x.document(3).is(3);
        x.document(1).is(3);
        x.document(2).is(3);
        x.document(0).is(NONE);
    }

    // "NONE when p is not in the corpus", a crash having undone it
    private static void documentAfterCrash() {
        Run x = pages("19: after a crash", 2);
        x.first(1).is(true);
        x.first(0).is(true);
        x.begin(0, 0, 0, 8).is(true);
        x.work(2).is(2);
        x.document(0).is(1);
        x.crash().is(2);
        x.document(0).is(NONE);
        x.document(1).is(NONE);
        x.work(1).is(1);
        x.document(1).is(1);
        x.document(0).is(NONE);
    }

    // Promise 20

    // "rounds is not 0 .. 12"
    private static void rankRounds() {
        Run x = pages("20: rounds is not 0 .. 12", 2);
        write(x, 1, 1);
        x.link(0, 1).is(true);
        x.link(1, 0).is(true);
        x.link(1, 1).is(true);
        gather(x, 0, 0, 1);
        long rank0 = 1000000;
        long rank1 = 1000000;
        for (int rounds = 0; rounds <= 12; rounds++) {
            x.rank(0, rounds).is(rank0);
            x.rank(1, rounds).is(rank1);
            long half = rank1 / 2;
            rank1 = 150000 + 85 * (rank0 + half) / 100;
            rank0 = 150000 + 85 * half / 100;
        }
        for (int rounds : Outside.of(0, 12)) {
            x.rank(0, rounds).is(0);
            x.rank(1, rounds).is(0);
        }
    }

    // "0 when p is no document"
    private static void rankOfNoDocument() {
        Run x = pages("20: p is no document", 5);
        x.move(2, 0).is(true);
        x.link(0, 1).is(true);
        gather(x, 1, 0, 1, 2);
        x.rank(0, 0).is(1000000);
        // Page 1 has the body of page 0, page 2 was moved, pages 3 and 4 were never queued.
        for (int p = 1; p < 5; p++) {
            x.rank(p, 0).is(0);
            x.rank(p, 12).is(0);
        }
        for (int p : Outside.of(0, 4)) {
            x.rank(p, 0).is(0);
            x.rank(p, 12).is(0);
            x.rank(p, p).is(0);
        }
    }

    // "or no gathering is under way"
    private static void rankWithoutGathering() {
        Run x = pages("20: no gathering is under way", 1);
        x.rank(0, 0).is(0);
        x.first(0).is(true);
        x.begin(0, 0, 0, 8).is(true);
        x.rank(0, 0).is(0);
        x.work(1).is(1);
        x.rank(0, 0).is(1000000);
        x.stop().is(true);
        x.rank(0, 0).is(0);
        x.rank(0, 12).is(0);
    }

    // "The RANK of a document after 0 rounds is 1000000."
    private static void rankAfterNoRounds() {
        Run x = pages("20: after 0 rounds", 3);
        write(x, 1, 1);
        write(x, 2, 2);
        x.link(0, 1).is(true);
        gather(x, 0, 0, 1, 2);
        for (int p = 0; p < 3; p++) {
            x.rank(p, 0).is(1000000);
        }
        x.rank(1, 12).is(277500);
        x.rank(1, 0).is(1000000);
    }

    // a sum over no links
    private static void rankWithoutLinks() {
        Run x = pages("20: no links", 1);
        gather(x, 0, 0);
        x.rank(0, 0).is(1000000);
        for (int rounds = 1; rounds <= 12; rounds++) {
            x.rank(0, rounds).is(150000);
        }
    }

    // "the number of links of e that lead to any document", that number being 0
    private static void rankWithLinksThatLeadNowhere() {
        Run x = pages("20: links that lead nowhere", 3);
        for (int i = 0; i < 5; i++) {
            x.link(0, 2).is(true);
        }
        gather(x, 0, 0, 1);
        x.rank(0, 0).is(1000000);
        x.rank(0, 1).is(150000);
        x.rank(0, 12).is(150000);
        x.rank(2, 1).is(0);
    }

    // "over .. all links of e that lead to it"
    private static void rankOfEachLink() {
        for (int to1 = 0; to1 <= 5; to1++) {
            Run x = pages("20: " + to1 + " of 5 links", 3);
            write(x, 1, 1);
            write(x, 2, 2);
            for (int i = 0; i < 5; i++) {
                x.link(0, i < to1 ? 1 : 2).is(true);
            }
            gather(x, 0, 0, 1, 2);
            x.rank(1, 1).is(150000 + 170000 * to1);
            x.rank(2, 1).is(150000 + 170000 * (5 - to1));
            x.rank(0, 1).is(150000);
        }
    }

    // "over all documents e (itself too)"
    private static void rankOfItself() {
        Run x = pages("20: itself too", 2);
        write(x, 1, 1);
        x.link(0, 0).is(true);
        x.link(1, 0).is(true);
        x.link(1, 1).is(true);
        gather(x, 0, 0, 1);
        x.rank(0, 1).is(150000 + 850000 + 425000);
        x.rank(1, 1).is(150000 + 425000);
    }

    // "of the rank of e .., divided by the number of links .., rounded down": each share by itself
    private static void rankSharesAreRoundedDown() {
        Run x = pages("20: shares are rounded down", 3);
        write(x, 1, 1);
        write(x, 2, 2);
        x.link(0, 1).is(true);
        x.link(0, 1).is(true);
        x.link(0, 2).is(true);
        x.link(1, 2).is(true);
        x.link(1, 2).is(true);
        x.link(1, 2).is(true);
        gather(x, 0, 0, 1, 2);
        // Three shares of 333333 are 999999, and with the one of page 0 it is 1333332.
        x.rank(1, 1).is(150000 + 566666);
        x.rank(2, 1).is(150000 + 1133332);
        // 716666 / 3 is 238888, and 150000 / 3 is 50000: 85 * 766664 / 100 is 651664.
        x.rank(2, 2).is(150000 + 651664);
    }

    // "150000 + (85 * s) / 100, rounded down"
    private static void rankIsRoundedDown() {
        Run x = pages("20: a rank is rounded down", 2);
        write(x, 1, 1);
        x.link(0, 1).is(true);
        x.link(1, 1).is(true);
        x.link(1, 1).is(true);
        x.link(1, 0).is(true);
        gather(x, 0, 0, 1);
        // 85 * 1666666 is 141666610, and 85 * 333333 is 28333305.
        x.rank(1, 1).is(150000 + 1416666);
        x.rank(0, 1).is(150000 + 283333);
    }

    // "over all documents e": other pages of the corpus pass nothing on
    private static void rankOfADocumentCountsOnly() {
        Run x = pages("20: documents pass on", 4);
        write(x, 2, 2);
        write(x, 3, 3);
        x.link(1, 2).is(true);
        x.link(3, 2).is(true);
        gather(x, 0, 0, 1, 2);
        // Page 1 is not its own document, and page 3 is not in the corpus.
        x.rank(2, 1).is(150000);
    }

    // "finds a page of the corpus whose document is d"
    private static void rankLeadsToTheDocument() {
        Run x = pages("20: leads to the document", 4);
        write(x, 0, 9);
        x.link(0, 2).is(true);
        x.link(0, 3).is(true);
        gather(x, 0, 0, 1, 2);
        // Page 2 has the body of page 1; page 3 has it too, but is not in the corpus.
        x.rank(1, 1).is(1000000);
        x.rank(2, 1).is(0);
        x.rank(3, 1).is(0);
    }

    // "when chasing the page to which it goes finds a page of the corpus"
    private static void rankLeadsWithinTheHops() {
        for (int hops = 0; hops <= 4; hops++) {
            Run x = pages("20: leads within " + hops + " hops", 7);
            write(x, 0, 1);
            for (int p = 1; p < 6; p++) {
                x.move(p, p + 1).is(true);
                x.link(0, p).is(true);
            }
            gather(x, hops, 0, 6);
            // Page 5 is one hop away, page 4 two, and so on; the links that lead share 1000000.
            int leading = hops;
            long sum = leading == 0 ? 0 : leading * (1000000L / leading);
            x.rank(6, 1).is(150000 + 85 * sum / 100);
        }
    }

    // "A link LEADS to a document d when chasing .. finds a page": not if nothing is found
    private static void rankOfBarredAndGone() {
        Run x = pages("20: barred and gone", 5);
        write(x, 0, 1);
        x.rule(0, 2, false).is(true);
        x.drop(2).is(true);
        x.move(3, 1).is(true);
        for (int q = 1; q < 5; q++) {
            x.link(0, q).is(true);
        }
        gather(x, 4, 0, 1, 2, 3, 4);
        // Only the link to page 4 leads anywhere.
        x.rank(4, 1).is(1000000);
        x.rank(0, 1).is(150000);
    }

    /** All 32 pages, each with a body of its own. */
    private static Run differentPages(String sentence) {
        Run x = pages(sentence, 32);
        for (int p = 0; p < 32; p++) {
            x.write(p, Math.min(p, 25)).is(true);
            if (p > 25) {
                x.write(p, p - 26).is(true);
            }
        }
        return x;
    }

    /** Pages 0 to 5 are first pages, and pages 1 to 7 link to all others, up to four each. */
    private static void reachAll(Run x) {
        for (int p = 0; p < 6; p++) {
            x.first(p).is(true);
        }
        for (int q = 6; q < 32; q++) {
            x.link(1 + (q - 6) / 4, q).is(true);
        }
    }

    // "(85 * s) / 100" where 85 * s is beyond the greatest int
    private static void rankBeyondAnInt() {
        Run x = differentPages("20: 85 * s is beyond an int");
        reachAll(x);
        for (int p = 0; p < 32; p++) {
            x.link(p, 0).is(true);
        }
        x.begin(6, 0, 0, 8).is(true);
        for (int i = 0; i < 4; i++) {
            x.work(8).is(8);
        }
        // Pages 1 to 6 pass on a fifth, page 7 a third, page 0 and the 24 others all that they have.
        long sum = 25 * 1000000L + 6 * 200000L + 333333L;
        CHECKS.due("20: 85 * s is beyond an int", 85 * sum > Integer.MAX_VALUE, true);
        x.rank(0, 1).is(150000 + 85 * sum / 100);
        x.rank(0, 1).is(22703333);
        x.rank(0, 12).is(26621207);
        x.best(0, 0, 0).is(0);
    }

    // Promise 21

    // "NONE when there is no such place"
    private static void bestNoSuchPlace() {
        Run x = pages("21: no such place", 4);
        for (int p = 0; p < 3; p++) {
            write(x, p, 7, p);
        }
        gather(x, 0, 0, 1, 2, 3);
        for (int k : Outside.of(0, 2)) {
            x.best(7, 7, k).is(NONE);
        }
        for (int k = 0; k < 3; k++) {
            x.best(7, 7, k).is(k);
        }
        x.best(7, 7, 3).is(NONE);
        x.best(7, 7, 31).is(NONE);
        x.best(7, 7, 32).is(NONE);
    }

    // "or no gathering is under way"
    private static void bestWithoutGathering() {
        Run x = pages("21: no gathering is under way", 1);
        write(x, 0, 7);
        x.best(7, 7, 0).is(NONE);
        x.best(7, 7, -1).is(NONE);
        gather(x, 0, 0);
        x.best(7, 7, 0).is(0);
        x.stop().is(true);
        x.best(7, 7, 0).is(NONE);
        x.best(Integer.MIN_VALUE, Integer.MAX_VALUE, Integer.MAX_VALUE).is(NONE);
        x.begin(0, 0, 0, 8).is(true);
        x.best(7, 7, 0).is(NONE);
        x.work(1).is(1);
        x.best(7, 7, 0).is(0);
        x.crash().is(1);
        x.best(7, 7, 0).is(NONE);
    }

    // "NONE when there is no such place", the corpus being empty
    private static void bestOfAnEmptyCorpus() {
        Run x = pages("21: the corpus is empty", 1);
        write(x, 0, 7);
        x.drop(0).is(true);
        gather(x, 0, 0);
        x.best(7, 7, 0).is(NONE);
        x.best(7, 7, -1).is(NONE);
        x.best(0, 0, 0).is(NONE);
    }

    // "whose score .. is above 0"
    private static void bestScoreAboveZero() {
        Run x = pages("21: a score above 0", 3);
        write(x, 0, 1);
        write(x, 1, 2);
        gather(x, 0, 0, 1, 2);
        x.best(1, 1, 0).is(0);
        x.best(1, 1, 1).is(NONE);
        x.best(1, 2, 0).is(0);
        x.best(1, 2, 1).is(1);
        x.best(1, 2, 2).is(NONE);
        x.best(3, 3, 0).is(NONE);
        x.best(0, 25, 0).is(NONE);
    }

    // "the words v and w (which may be the same)"
    private static void bestOfTheSameWord() {
        Run x = pages("21: v and w are the same", 2);
        write(x, 0, 5, 6);
        write(x, 1, 5, 5, 7);
        gather(x, 0, 0, 1);
        x.best(5, 5, 0).is(1);
        x.best(5, 5, 1).is(0);
        x.best(5, 5, 2).is(NONE);
        x.best(6, 6, 0).is(0);
        x.best(6, 6, 1).is(NONE);
    }

    // "the number of places in its body where one of them stands (a place counts once)"
    private static void bestAPlaceCountsOnce() {
        Run x = pages("21: a place counts once", 3);
        write(x, 0, 5, 5, 6, 6);
        write(x, 1, 5, 5, 5);
        write(x, 2, 6, 5);
        gather(x, 0, 0, 1, 2);
        // Places count, not words: page 2 has both words, but in two places only.
        int[] both = {0, 1, 2};
        for (int k = 0; k < 3; k++) {
            x.best(5, 6, k).is(both[k]);
            x.best(6, 5, k).is(both[k]);
        }
        x.best(5, 5, 0).is(1);
        x.best(5, 5, 1).is(0);
        x.best(5, 5, 2).is(2);
        x.best(6, 6, 0).is(0);
        x.best(6, 6, 1).is(2);
        x.best(6, 6, 2).is(NONE);
    }

    // "by the rank after 8 rounds": the ranks swing, so that 7 or 9 rounds would answer otherwise
    private static void bestAfterEightRounds() {
        Run x = pages("21: after 8 rounds", 4);
        write(x, 0, 1, 1, 2);
        write(x, 1, 1, 1, 3);
        write(x, 2, 10);
        write(x, 3, 11);
        x.link(0, 1).is(true);
        x.link(1, 0).is(true);
        x.link(2, 0).is(true);
        x.link(3, 0).is(true);
        gather(x, 0, 0, 1, 2, 3);
        x.rank(0, 7).is(2213501);
        x.rank(1, 7).is(1486495);
        x.rank(0, 8).is(1668520);
        x.rank(1, 8).is(2031475);
        x.rank(0, 9).is(2131753);
        x.rank(1, 9).is(1568242);
        x.best(1, 1, 0).is(1);
        x.best(1, 1, 1).is(0);
    }

    // a word that is none of 0 .. 25 stands in no body
    private static void bestOfWordsThatAreNone() {
        Run x = pages("21: words that are none", 3);
        write(x, 0, 0);
        write(x, 1, 25);
        gather(x, 0, 0, 1, 2);
        for (int word : Outside.of(0, 25)) {
            x.best(word, word, 0).is(NONE);
            x.best(0, word, 0).is(0);
            x.best(word, 25, 0).is(1);
            x.best(word, 25, 1).is(NONE);
        }
        x.best(0, 25, 0).is(0);
        x.best(0, 25, 1).is(1);
        x.best(0, 25, 2).is(NONE);
    }

    // "the number of places in its body where one of them stands", bodies of 8 words
    private static void bestOfFullBodies() {
        Run x = pages("21: full bodies", 3);
        write(x, 0, 3, 3, 3, 3, 3, 3, 3);
        write(x, 1, 3, 3, 3, 3, 3, 3, 3, 3);
        write(x, 2, 4, 4, 4, 4, 4, 4, 4, 3);
        gather(x, 0, 0, 1, 2);
        x.best(3, 3, 0).is(1);
        x.best(3, 3, 1).is(0);
        x.best(3, 3, 2).is(2);
        // Eight places each: the lesser path is first.
        x.best(3, 4, 0).is(1);
        x.best(3, 4, 1).is(2);
        x.best(3, 4, 2).is(0);
    }

    // "a greater score first", and greater by as little as can be
    private static void bestGreaterScoreFirst() {
        Run x = pages("21: a greater score first", 4);
        write(x, 0, 1, 2);
        write(x, 1, 1, 3);
        write(x, 2, 8);
        write(x, 3, 9);
        for (int i = 0; i < 3; i++) {
            x.link(2, 0).is(true);
        }
        x.link(3, 1).is(true);
        gather(x, 0, 0, 1, 2, 3);
        // After 8 rounds page 2 passes on three times 50000, page 3 once 150000: this is the same.
        x.rank(0, 8).is(277500);
        x.rank(1, 8).is(277500);
        x.best(1, 1, 0).is(0);
        x.best(1, 1, 1).is(1);
        x.stop().is(true);
        x.link(0, 0).is(true);
        x.link(1, 1).is(true);
        x.begin(0, 0, 0, 8).is(true);
        x.work(10).is(4);
        // Only 999999 came from page 2 in round one, and so page 0 stays behind by one.
        x.rank(0, 8).is(1849999);
        x.rank(1, 8).is(1850000);
        x.best(1, 1, 0).is(1);
        x.best(1, 1, 1).is(0);
        x.stop().is(true);
        // A word more makes the score of page 0 the greater one, though its rank is less.
        write(x, 0, 1);
        x.begin(0, 0, 0, 8).is(true);
        x.work(10).is(4);
        x.best(1, 1, 0).is(0);
        x.best(1, 1, 1).is(1);
    }

    // "of equal scores the lesser host first"
    private static void bestLesserHostFirst() {
        Run x = new Run(CHECKS, "21: the lesser host first");
        for (int i = 0; i < 6; i++) {
            x.page(5 - i, 1 + i).is(i);
            write(x, i, 9, i);
        }
        gather(x, 0, 0, 1, 2, 3, 4, 5);
        // The lesser path goes with the greater host here, and so does the earlier place.
        for (int k = 0; k < 6; k++) {
            x.best(9, 9, k).is(5 - k);
        }
        x.best(9, 9, 6).is(NONE);
    }

    // "of equal hosts the lesser path first"
    private static void bestLesserPathFirst() {
        Run x = new Run(CHECKS, "21: the lesser path first");
        int[] paths = {999999, 1, 100000, 9, 10, 99999};
        int[] order = {1, 3, 4, 5, 2, 0};
        for (int i = 0; i < 6; i++) {
            x.page(3, paths[i]).is(i);
            write(x, i, 9, i);
        }
        gather(x, 0, 0, 1, 2, 3, 4, 5);
        // As numbers, not as texts: 9 comes before 10, and 99999 before 100000.
        for (int k = 0; k < 6; k++) {
            x.best(9, 9, k).is(order[k]);
        }
        x.best(9, 9, 6).is(NONE);
    }

    // "Of the documents ..": a page with the body of another takes no place
    private static void bestOfDocumentsOnly() {
        Run x = pages("21: documents only", 5);
        write(x, 1, 4);
        write(x, 2, 4);
        write(x, 3, 4, 4);
        write(x, 4, 4, 4, 4);
        gather(x, 0, 2, 1, 3, 0);
        x.best(4, 4, 0).is(3);
        // Page 2 stands before page 1 in the corpus; page 4 is not there.
        x.best(4, 4, 1).is(2);
        x.best(4, 4, 2).is(NONE);
    }

    // "the one at place k (from 0)", all 32 pages being documents
    private static void bestOfAllPages() {
        Run x = pages("21: all pages", 32);
        for (int p = 0; p < 32; p++) {
            x.write(p, 25).is(true);
            x.write(p, p % 16).is(true);
            x.write(p, p / 16).is(true);
        }
        for (int q = 6; q < 32; q++) {
            x.link((q - 6) / 5, q).is(true);
        }
        for (int p = 0; p < 6; p++) {
            x.first(p).is(true);
        }
        x.begin(1, 0, 0, 8).is(true);
        for (int i = 0; i < 4; i++) {
            x.work(8).is(8);
        }
        // Those linked to have a fifth of 150000 more, page 31 all of it; the first six have least.
        x.best(25, 25, 0).is(31);
        for (int k = 1; k <= 25; k++) {
            x.best(25, 25, k).is(5 + k);
        }
        for (int k = 26; k <= 31; k++) {
            x.best(25, 25, k).is(k - 26);
        }
        for (int k : Outside.of(0, 31)) {
            x.best(25, 25, k).is(NONE);
        }
    }
}
