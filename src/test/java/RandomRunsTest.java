import java.util.Random;

/** Runs of 512 calls, drawn from fixed seeds, answered as the plain model answers them. */
public final class RandomRunsTest {
    private static final int RUNS = 1500;
    private static final int CALLS = 512;

    private final Checks checks;
    private final String name;
    private final Random random;
    private final PoliteGatherer x = new PoliteGatherer();
    private final PlainModel model = new PlainModel();
    private final int pagesWanted;
    private final int words;
    private final int hosts;
    private int pages = 0;

    private RandomRunsTest(Checks checks, int seed) {
        this.checks = checks;
        name = "run " + seed + ": ";
        random = new Random(seed);
        pagesWanted = 1 + random.nextInt(34);
        words = 1 + random.nextInt(4);
        hosts = 1 + random.nextInt(6);
    }

    public static void main(String[] args) {
        Checks checks = new Checks();
        for (int seed = 0; seed < RUNS; seed++) {
            new RandomRunsTest(checks, seed).play();
        }
        checks.end();
    }

    private void play() {
        int calls = pagesWanted;
        for (int i = 0; i < pagesWanted; i++) {
            addPage(random.nextInt(hosts), anyPath());
        }
        int building = 2 + random.nextInt(200);
        for (int i = 0; i < building; i++) {
            build();
        }
        calls += building;
        while (calls < CALLS) {
            if (random.nextInt(40) == 0) {
                build();
            } else {
                use();
            }
            calls++;
        }
    }

    /** Few digits, so that prefixes match often; now and then at the edges and beyond them. */
    private int anyPath() {
        int[] edges = {0, 1, 999999, 1000000, -1};
        if (random.nextInt(12) == 0) {
            return edges[random.nextInt(edges.length)];
        }
        int path = 0;
        int digits = 1 + random.nextInt(6);
        for (int i = 0; i < digits; i++) {
            path = 10 * path + (i == 0 ? 1 : 0) + random.nextInt(2);
        }
        return path;
    }

    private int anyPage() {
        int[] wrong = {-1, pages, 32, Integer.MIN_VALUE, Integer.MAX_VALUE};
        if (pages == 0 || random.nextInt(30) == 0) {
            return wrong[random.nextInt(wrong.length)];
        }
        return random.nextInt(pages);
    }

    /** From least to greatest, and now and then one step or far beyond. */
    private int around(int least, int greatest) {
        int[] wrong = {least - 1, greatest + 1, Integer.MIN_VALUE, Integer.MAX_VALUE};
        if (random.nextInt(25) == 0) {
            return wrong[random.nextInt(wrong.length)];
        }
        return least + random.nextInt(greatest - least + 1);
    }

    private void addPage(int host, int path) {
        int got = x.page(host, path);
        checks.due(name + "page(" + host + ", " + path + ")", got, model.page(host, path));
        if (got != PoliteGatherer.NONE) {
            pages++;
        }
    }

    private void build() {
        int p = anyPage();
        int q = anyPage();
        int kind = random.nextInt(24);
        if (kind < 9) {
            checks.due(name + "link(" + p + ", " + q + ")", x.link(p, q), model.link(p, q));
        } else if (kind < 15) {
            int word = random.nextInt(20) == 0 ? around(0, 25) : random.nextInt(words);
            checks.due(name + "write(" + p + ", " + word + ")", x.write(p, word), model.write(p, word));
        } else if (kind < 18) {
            checks.due(name + "move(" + p + ", " + q + ")", x.move(p, q), model.move(p, q));
        } else if (kind < 19) {
            checks.due(name + "drop(" + p + ")", x.drop(p), model.drop(p));
        } else if (kind < 21) {
            int host = around(0, 5);
            int prefix = random.nextInt(6) == 0 ? 0 : anyPath();
            boolean allows = random.nextInt(3) > 0;
            checks.due(name + "rule(" + host + ", " + prefix + ", " + allows + ")",
                x.rule(host, prefix, allows), model.rule(host, prefix, allows));
        } else if (kind < 23) {
            checks.due(name + "first(" + p + ")", x.first(p), model.first(p));
        } else {
            addPage(around(0, 5), anyPath());
        }
    }

    private void use() {
        int kind = random.nextInt(40);
        if (kind < 4) {
            begin();
        } else if (kind == 4 && random.nextInt(3) == 0) {
            checks.due(name + "stop()", x.stop(), model.stop());
        } else if (kind < 12) {
            int n = around(1, random.nextBoolean() ? 3 : 10);
            checks.due(name + "work(" + n + ")", x.work(n), model.work(n));
        } else if (kind < 15) {
            checks.due(name + "crash()", x.crash(), model.crash());
        } else if (kind < 25) {
            look();
        } else {
            askAboutPages();
        }
    }

    private void begin() {
        int limit = around(0, 6);
        int hops = around(0, 4);
        int delay = around(0, 9);
        int every = around(1, 8);
        checks.due(name + "begin(" + limit + ", " + hops + ", " + delay + ", " + every + ")",
            x.begin(limit, hops, delay, every), model.begin(limit, hops, delay, every));
    }

    private void look() {
        int i = around(0, 31);
        switch (random.nextInt(4)) {
            case 0 -> checks.due(name + "clock()", x.clock(), model.clock());
            case 1 -> checks.due(name + "fetches()", x.fetches(), model.fetches());
            case 2 -> checks.due(name + "waiting()", x.waiting(), model.waiting());
            default -> checks.due(name + "corpusAt(" + i + ")", x.corpusAt(i), model.corpusAt(i));
        }
    }

    private void askAboutPages() {
        int p = anyPage();
        switch (random.nextInt(6)) {
            case 0 -> checks.due(name + "allowed(" + p + ")", x.allowed(p), model.allowed(p));
            case 1 -> checks.due(name + "found(" + p + ")", x.found(p), model.found(p));
            case 2 -> checks.due(name + "document(" + p + ")", x.document(p), model.document(p));
            case 3 -> askForRank(p, around(0, 12));
            default -> askForBest(around(0, words), around(0, words), around(0, 8));
        }
    }

    private void askForRank(int p, int rounds) {
        checks.due(name + "rank(" + p + ", " + rounds + ")", x.rank(p, rounds), model.rank(p, rounds));
    }

    private void askForBest(int v, int w, int k) {
        checks.due(name + "best(" + v + ", " + w + ", " + k + ")", x.best(v, w, k), model.best(v, w, k));
    }
}
