/** Promises 19 to 21: documents, ranks and scores. */
public final class RankingTest {
    private static final Checks CHECKS = new Checks();

    public static void main(String[] args) {
        promise19Document();
        promise19OrderOfCorpus();
        promise19OnlyCorpus();
        promise20Edges();
        promise20RoundedDown();
        promise20OnlyDocumentsPassOn();
        promise20Hops();
        promise20ChangesWithCorpus();
        questionsFetchNothing();
        promise21Places();
        promise21EqualScores();
        promise21Rank();
        promise21EightRounds();
        promise21Edges();
        CHECKS.end();
    }

    private static PoliteGatherer pages(int count) {
        PoliteGatherer x = new PoliteGatherer();
        for (int i = 0; i < count; i++) {
            CHECKS.due("page(0, " + (i + 1) + ")", x.page(0, i + 1), i);
        }
        return x;
    }

    private static void write(PoliteGatherer x, int p, int... words) {
        for (int word : words) {
            CHECKS.due("write(" + p + ", " + word + ")", x.write(p, word), true);
        }
    }

    /** Gathers the pages named, in their order, without following their links. */
    private static void gather(PoliteGatherer x, int... firsts) {
        for (int p : firsts) {
            CHECKS.due("first(" + p + ")", x.first(p), true);
        }
        CHECKS.due("begin(0, 0, 0, 8)", x.begin(0, 0, 0, 8), true);
        x.work(10);
    }

    private static void promise19Document() {
        PoliteGatherer x = pages(6);
        write(x, 0, 1, 2);
        write(x, 1, 2, 1);
        write(x, 2, 1, 2);
        write(x, 3, 1, 2, 1);
        CHECKS.due("19: document(0) without a gathering", x.document(0), -1);
        gather(x, 0, 1, 2, 3, 4, 5);
        CHECKS.due("19: itself", x.document(0), 0);
        CHECKS.due("19: another order of words", x.document(1), 1);
        CHECKS.due("19: the same words in the same order", x.document(2), 0);
        CHECKS.due("19: a longer body", x.document(3), 3);
        CHECKS.due("19: an empty body", x.document(4), 4);
        CHECKS.due("19: another empty body", x.document(5), 4);
        CHECKS.due("19: document(-1)", x.document(-1), -1);
        CHECKS.due("19: document(6)", x.document(6), -1);
        CHECKS.due("19: document(MAX)", x.document(Integer.MAX_VALUE), -1);
    }

    private static void promise19OrderOfCorpus() {
        PoliteGatherer x = pages(3);
        write(x, 0, 7);
        write(x, 1, 7);
        write(x, 2, 7);
        gather(x, 2, 0);
        CHECKS.due("19: the first of the corpus, not the least page", x.document(0), 2);
        CHECKS.due("19: itself", x.document(2), 2);
        CHECKS.due("19: not in the corpus", x.document(1), -1);
    }

    private static void promise19OnlyCorpus() {
        PoliteGatherer x = pages(2);
        x.move(0, 1);
        x.first(0);
        x.begin(0, 1, 0, 2);
        CHECKS.due("19: nothing gathered yet", x.document(1), -1);
        x.work(1);
        CHECKS.due("19: what moved is not in the corpus", x.document(0), -1);
        CHECKS.due("19: what was found is", x.document(1), 1);
        x.crash();
        CHECKS.due("19: undone by a crash", x.document(1), -1);
    }

    private static void promise20Edges() {
        PoliteGatherer x = pages(3);
        write(x, 2, 5);
        CHECKS.due("20: rank(0, 0) without a gathering", x.rank(0, 0), 0);
        gather(x, 0, 1);
        CHECKS.due("20: rank(0, 0)", x.rank(0, 0), 1000000);
        CHECKS.due("20: rank(0, 1) without links", x.rank(0, 1), 150000);
        CHECKS.due("20: rank(0, 12) without links", x.rank(0, 12), 150000);
        CHECKS.due("20: rank(0, -1)", x.rank(0, -1), 0);
        CHECKS.due("20: rank(0, 13)", x.rank(0, 13), 0);
        CHECKS.due("20: rank(1, 0), not its own document", x.rank(1, 0), 0);
        CHECKS.due("20: rank(2, 0), not in the corpus", x.rank(2, 0), 0);
        CHECKS.due("20: rank(-1, 0)", x.rank(-1, 0), 0);
        CHECKS.due("20: rank(3, 0)", x.rank(3, 0), 0);
        CHECKS.due("20: rank(MIN, 0)", x.rank(Integer.MIN_VALUE, 0), 0);
    }

    private static void promise20RoundedDown() {
        PoliteGatherer x = pages(3);
        write(x, 1, 1);
        write(x, 2, 2);
        x.link(0, 0);
        x.link(0, 1);
        x.link(0, 1);
        gather(x, 0, 1, 2);
        // 1000000 / 3 is 333333: once to itself, twice to page 1; 85 * 666666 / 100 is 566666.
        CHECKS.due("20: rank(0, 1)", x.rank(0, 1), 150000 + 283333);
        CHECKS.due("20: rank(1, 1)", x.rank(1, 1), 150000 + 566666);
        CHECKS.due("20: rank(2, 1)", x.rank(2, 1), 150000);
        // 433333 / 3 is 144444; 85 * 144444 / 100 is 122777, 85 * 288888 / 100 is 245554.
        CHECKS.due("20: rank(0, 2)", x.rank(0, 2), 150000 + 122777);
        CHECKS.due("20: rank(1, 2)", x.rank(1, 2), 150000 + 245554);
        CHECKS.due("20: rank(0, 1) again", x.rank(0, 1), 433333);
    }

    private static void promise20OnlyDocumentsPassOn() {
        PoliteGatherer x = pages(5);
        write(x, 0, 1);
        write(x, 1, 2);
        write(x, 2, 2);
        write(x, 3, 3);
        x.link(0, 2);
        x.link(0, 4);
        x.link(2, 3);
        x.link(3, 1);
        x.link(3, 0);
        gather(x, 0, 1, 2, 3);
        // The link 0 to 4 leaves the corpus; 0 to 2 leads to 1; the link of 2 does not count.
        CHECKS.due("20: rank(1, 1)", x.rank(1, 1), 150000 + 850000 + 425000);
        CHECKS.due("20: rank(3, 1)", x.rank(3, 1), 150000);
        CHECKS.due("20: rank(0, 1)", x.rank(0, 1), 150000 + 425000);
        CHECKS.due("20: rank(2, 1)", x.rank(2, 1), 0);
    }

    private static void promise20Hops() {
        PoliteGatherer x = pages(5);
        write(x, 4, 9);
        x.move(1, 2);
        x.move(2, 4);
        x.drop(3);
        x.link(0, 1);
        x.link(0, 2);
        x.link(0, 3);
        x.first(0);
        x.first(4);
        x.begin(0, 0, 0, 8);
        x.work(10);
        CHECKS.due("20: no hops, no link leads anywhere", x.rank(4, 1), 150000);
        x.stop();
        x.link(0, 0);
        x.begin(0, 1, 0, 8);
        x.work(10);
        CHECKS.due("20: one hop, 2 leads to 4", x.rank(4, 1), 150000 + 425000);
        x.stop();
        x.begin(0, 2, 0, 8);
        x.work(10);
        CHECKS.due("20: two hops, 1 too", x.rank(4, 1), 150000 + 566666);
        CHECKS.due("20: itself by one link of three", x.rank(0, 1), 150000 + 283333);
    }

    private static void promise20ChangesWithCorpus() {
        PoliteGatherer x = pages(2);
        write(x, 1, 1);
        x.link(0, 1);
        x.first(0);
        x.begin(1, 0, 0, 8);
        CHECKS.due("20: nothing gathered", x.rank(0, 0), 0);
        x.work(1);
        CHECKS.due("20: 1 is not gathered yet", x.rank(1, 1), 0);
        x.work(1);
        CHECKS.due("20: 1 is gathered", x.rank(1, 1), 1000000);
        x.crash();
        CHECKS.due("20: undone by a crash", x.rank(1, 1), 0);
        x.work(10);
        CHECKS.due("20: gathered again", x.rank(1, 1), 1000000);
    }

    private static void questionsFetchNothing() {
        PoliteGatherer x = pages(2);
        write(x, 0, 1);
        x.link(0, 1);
        x.first(0);
        x.begin(1, 0, 5, 8);
        x.work(1);
        CHECKS.due("20: rank(0, 12)", x.rank(0, 12), 150000);
        CHECKS.due("21: best(1, 1, 0)", x.best(1, 1, 0), 0);
        CHECKS.due("20 and 21: fetches()", x.fetches(), 1);
        CHECKS.due("20 and 21: clock()", x.clock(), 1);
        CHECKS.due("20 and 21: work(1)", x.work(1), 1);
    }

    private static void promise21Places() {
        PoliteGatherer x = pages(5);
        write(x, 0, 3, 3, 4);
        write(x, 1, 4, 4);
        write(x, 2, 5);
        write(x, 3, 3, 3, 4);
        write(x, 4, 3, 4, 4, 5, 0, 0, 0, 0);
        CHECKS.due("21: best without a gathering", x.best(3, 4, 0), -1);
        gather(x, 0, 1, 2, 3, 4);
        CHECKS.due("21: best(3, 4, 0)", x.best(3, 4, 0), 0);
        CHECKS.due("21: best(3, 4, 1)", x.best(3, 4, 1), 4);
        CHECKS.due("21: best(3, 4, 2)", x.best(3, 4, 2), 1);
        CHECKS.due("21: best(3, 4, 3), 3 is no document", x.best(3, 4, 3), -1);
        CHECKS.due("21: best(4, 3, 2)", x.best(4, 3, 2), 1);
        CHECKS.due("21: best(3, 3, 0)", x.best(3, 3, 0), 0);
        CHECKS.due("21: best(3, 3, 1)", x.best(3, 3, 1), 4);
        CHECKS.due("21: best(3, 3, 2)", x.best(3, 3, 2), -1);
        CHECKS.due("21: best(4, 4, 0), 2 places, the lesser path", x.best(4, 4, 0), 1);
        CHECKS.due("21: best(4, 4, 1)", x.best(4, 4, 1), 4);
        CHECKS.due("21: best(4, 4, 2)", x.best(4, 4, 2), 0);
        CHECKS.due("21: best(3, 5, 1), a place counts once", x.best(3, 5, 1), 4);
        CHECKS.due("21: best(5, 6, 0)", x.best(5, 6, 0), 2);
        CHECKS.due("21: best(5, 6, 1)", x.best(5, 6, 1), 4);
        CHECKS.due("21: best(0, 0, 0)", x.best(0, 0, 0), 4);
        CHECKS.due("21: best(0, 0, 1), no word beyond a body", x.best(0, 0, 1), -1);
    }

    private static void promise21EqualScores() {
        PoliteGatherer x = new PoliteGatherer();
        int[][] places = {{3, 1}, {1, 20}, {1, 3}, {2, 5}, {1, 100}};
        for (int i = 0; i < places.length; i++) {
            x.page(places[i][0], places[i][1]);
            write(x, i, 9, 10 + i);
        }
        gather(x, 0, 1, 2, 3, 4);
        int[] order = {2, 1, 4, 3, 0};
        for (int k = 0; k < order.length; k++) {
            CHECKS.due("21: best(9, 9, " + k + ")", x.best(9, 9, k), order[k]);
        }
        CHECKS.due("21: best(9, 9, 5)", x.best(9, 9, 5), -1);
    }

    private static void promise21Rank() {
        PoliteGatherer x = pages(3);
        write(x, 0, 6, 6, 6);
        write(x, 1, 6);
        write(x, 2, 7);
        x.link(0, 1);
        x.link(1, 1);
        gather(x, 0, 1, 2);
        CHECKS.due("21: a greater rank counts more than more places", x.best(6, 6, 0), 1);
        CHECKS.due("21: more places", x.best(6, 6, 1), 0);
    }

    /** The ranks of pages 0 and 1 swing from round to round, so that only 8 rounds answer this. */
    private static void promise21EightRounds() {
        PoliteGatherer x = pages(4);
        write(x, 0, 1, 1, 1, 1, 1, 2);
        write(x, 1, 1, 1, 1, 1, 2);
        write(x, 2, 10);
        write(x, 3, 11);
        x.link(0, 1);
        x.link(1, 0);
        x.link(2, 0);
        x.link(3, 0);
        gather(x, 0, 1, 2, 3);
        CHECKS.due("20: rank(0, 6)", x.rank(0, 6), 1572348);
        CHECKS.due("20: rank(1, 6)", x.rank(1, 6), 2127649);
        CHECKS.due("20: rank(0, 8)", x.rank(0, 8), 1668520);
        CHECKS.due("20: rank(1, 8)", x.rank(1, 8), 2031475);
        CHECKS.due("20: rank(0, 12)", x.rank(0, 12), 1788208);
        CHECKS.due("20: rank(1, 12)", x.rank(1, 12), 1911787);
        // 5 * 1668520 is above 4 * 2031475; by 2, 4 or 6 rounds page 1 would come first.
        CHECKS.due("21: best(1, 1, 0)", x.best(1, 1, 0), 0);
        CHECKS.due("21: best(1, 1, 1)", x.best(1, 1, 1), 1);
        // 6 * 1668520 is below 5 * 2031475; by 10 or 12 rounds, or an odd number, page 0 would come first.
        CHECKS.due("21: best(1, 2, 0)", x.best(1, 2, 0), 1);
        CHECKS.due("21: best(1, 2, 1)", x.best(1, 2, 1), 0);
    }

    private static void promise21Edges() {
        PoliteGatherer x = pages(1);
        write(x, 0, 0, 25);
        gather(x, 0);
        CHECKS.due("21: best(0, 0, -1)", x.best(0, 0, -1), -1);
        CHECKS.due("21: best(0, 0, MIN)", x.best(0, 0, Integer.MIN_VALUE), -1);
        CHECKS.due("21: best(0, 0, MAX)", x.best(0, 0, Integer.MAX_VALUE), -1);
        CHECKS.due("21: best(0, -1, 0)", x.best(0, -1, 0), 0);
        CHECKS.due("21: best(26, 25, 0)", x.best(26, 25, 0), 0);
        CHECKS.due("21: best(-1, 26, 0)", x.best(-1, 26, 0), -1);
        CHECKS.due("21: best(-1, -1, 0)", x.best(-1, -1, 0), -1);
    }
}
