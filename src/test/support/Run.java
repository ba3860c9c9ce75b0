import java.util.ArrayList;
import java.util.List;

/**
 * A new object and the calls made on it: each is counted and written down with its answer, so that
 * no test goes beyond the 512 calls for which the document answers.
 */
final class Run {
    private static final int MOST_CALLS = 512;

    private final Checks checks;
    private final String name;
    private final PoliteGatherer x = new PoliteGatherer();
    private final List<String> log = new ArrayList<>();

    /** Calls that are made on a run. */
    interface Part {
        void on(Run x);
    }

    record Count(Checks checks, String call, long got) {
        void is(long want) {
            checks.due(call, got, want);
        }
    }

    record Verdict(Checks checks, String call, boolean got) {
        void is(boolean want) {
            checks.due(call, got, want);
        }
    }

    Run(Checks checks, String name) {
        this.checks = checks;
        this.name = name;
    }

    /** What was answered to the calls of a part, which are made now. */
    List<String> answersTo(Part part) {
        int start = log.size();
        part.on(this);
        return log.subList(start, log.size());
    }

    private String note(String call, Object got) {
        log.add(call + " answered " + got);
        if (log.size() > MOST_CALLS) {
            checks.due(name + ": calls on one object within the limit", log.size(), MOST_CALLS);
        }
        return name + ": call " + log.size() + ": " + call;
    }

    private Count count(String call, long got) {
        return new Count(checks, note(call, got), got);
    }

    private Verdict verdict(String call, boolean got) {
        return new Verdict(checks, note(call, got), got);
    }

    Count page(int host, int path) {
        return count("page(" + host + ", " + path + ")", x.page(host, path));
    }

    Verdict write(int p, int word) {
        return verdict("write(" + p + ", " + word + ")", x.write(p, word));
    }

    Verdict link(int p, int q) {
        return verdict("link(" + p + ", " + q + ")", x.link(p, q));
    }

    Verdict move(int p, int q) {
        return verdict("move(" + p + ", " + q + ")", x.move(p, q));
    }

    Verdict drop(int p) {
        return verdict("drop(" + p + ")", x.drop(p));
    }

    Verdict rule(int host, int prefix, boolean allows) {
        return verdict("rule(" + host + ", " + prefix + ", " + allows + ")", x.rule(host, prefix, allows));
    }

    Verdict first(int p) {
        return verdict("first(" + p + ")", x.first(p));
    }

    Verdict begin(int limit, int hops, int delay, int every) {
        return verdict("begin(" + limit + ", " + hops + ", " + delay + ", " + every + ")",
            x.begin(limit, hops, delay, every));
    }

    Verdict stop() {
        return verdict("stop()", x.stop());
    }

    Count work(int n) {
        return count("work(" + n + ")", x.work(n));
    }

    Count crash() {
        return count("crash()", x.crash());
    }

    Verdict allowed(int p) {
        return verdict("allowed(" + p + ")", x.allowed(p));
    }

    Count found(int p) {
        return count("found(" + p + ")", x.found(p));
    }

    Count clock() {
        return count("clock()", x.clock());
    }

    Count fetches() {
        return count("fetches()", x.fetches());
    }

    Count waiting() {
        return count("waiting()", x.waiting());
    }

    Count corpusAt(int i) {
        return count("corpusAt(" + i + ")", x.corpusAt(i));
    }

    Count document(int p) {
        return count("document(" + p + ")", x.document(p));
    }

    Count rank(int p, int rounds) {
        return count("rank(" + p + ", " + rounds + ")", x.rank(p, rounds));
    }

    Count best(int v, int w, int k) {
        return count("best(" + v + ", " + w + ", " + k + ")", x.best(v, w, k));
    }
}
