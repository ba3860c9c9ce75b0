import java.util.List;

/**
 * Two objects with the same past, but that one of them also had calls that must change nothing:
 * whatever is called later, both must answer the same.
 */
final class Twins {
    private static final int MOST_PAGES = 32;
    private static final int HOSTS = 6;
    private static final int WORDS = 26;

    /** Each is played on twins of its own, since what it calls changes them. */
    private static final Run.Part[] LATER = {
        Twins::asks, Twins::goesOn, Twins::crashesAndGoesOn, Twins::gathers,
        Twins::fillsPages, Twins::fillsBodies, Twins::fillsLinks, Twins::fillsRulesAndFirsts,
    };

    private Twins() { }

    static void stayAlike(Checks checks, String name, Run.Part past, Run.Part idle) {
        for (int i = 0; i < LATER.length; i++) {
            Run.Part later = LATER[i];
            stayAlike(checks, name + ", later calls " + i, past, idle, later);
            // Without a gathering the web can be changed, which shows what it is.
            stayAlike(checks, name + ", stop and later calls " + i, past, idle, x -> {
                x.stop();
                later.on(x);
            });
        }
    }

    private static void stayAlike(Checks checks, String name, Run.Part past, Run.Part idle, Run.Part later) {
        Run plain = new Run(checks, name);
        Run tried = new Run(checks, name);
        past.on(plain);
        past.on(tried);
        idle.on(tried);
        compare(checks, name, plain.answersTo(later), tried.answersTo(later));
    }

    private static void compare(Checks checks, String name, List<String> wanted, List<String> got) {
        for (int i = 0; i < wanted.size(); i++) {
            checks.due(name + ": after calls that change nothing", got.get(i), wanted.get(i));
        }
    }

    private static void asks(Run x) {
        x.clock();
        x.fetches();
        x.waiting();
        for (int p = 0; p <= MOST_PAGES; p++) {
            x.corpusAt(p);
            x.allowed(p);
            x.found(p);
            x.document(p);
            x.rank(p, 3);
        }
        for (int word = 0; word < WORDS; word++) {
            x.best(word, word, 0);
            x.best(word, word, 1);
        }
    }

    /** Entry by entry, so that the clock shows all times FROM, and the crash shows the marks. */
    private static void goesOn(Run x) {
        for (int i = 0; i < 20; i++) {
            x.work(1);
            x.clock();
            x.waiting();
        }
        x.fetches();
        x.crash();
        corpus(x);
        x.work(10);
        x.clock();
    }

    private static void crashesAndGoesOn(Run x) {
        x.crash();
        corpus(x);
        goesOn(x);
    }

    private static void corpus(Run x) {
        x.waiting();
        for (int i = 0; i <= MOST_PAGES; i++) {
            x.corpusAt(i);
        }
    }

    private static void gathers(Run x) {
        x.begin(6, 4, 9, 8);
        x.waiting();
        for (int i = 0; i < 4; i++) {
            x.work(10);
            x.clock();
        }
        asks(x);
    }

    private static void fillsPages(Run x) {
        for (int i = 0; i <= MOST_PAGES; i++) {
            x.page(5, 900000 + i);
        }
        x.page(5, 1);
        for (int p = 0; p <= MOST_PAGES; p++) {
            x.allowed(p);
        }
    }

    private static void fillsBodies(Run x) {
        for (int p = 0; p <= MOST_PAGES; p++) {
            for (int i = 0; i < 9; i++) {
                x.write(p, 25);
            }
        }
        x.begin(6, 4, 9, 8);
        x.work(10);
        for (int p = 0; p <= MOST_PAGES; p++) {
            x.document(p);
        }
    }

    private static void fillsLinks(Run x) {
        for (int p = 0; p <= MOST_PAGES; p++) {
            for (int i = 0; i < 6; i++) {
                x.link(p, 0);
            }
        }
        x.begin(6, 4, 9, 8);
        x.work(10);
        for (int p = 0; p <= MOST_PAGES; p++) {
            x.rank(p, 1);
        }
    }

    private static void fillsRulesAndFirsts(Run x) {
        for (int i = 0; i < 7; i++) {
            x.first(0);
        }
        for (int host = 0; host < HOSTS; host++) {
            for (int i = 0; i < 5; i++) {
                x.rule(host, 0, false);
            }
        }
        for (int p = 0; p <= MOST_PAGES; p++) {
            x.allowed(p);
        }
        x.begin(0, 0, 0, 1);
        x.waiting();
    }
}
