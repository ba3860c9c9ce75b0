import java.util.ArrayList;
import java.util.HashSet;
import java.util.List;
import java.util.Set;

/**
 * The document's words once more, written as plainly as they stand and with no thought of room:
 * a mark is a copy of everything, digits are texts, and each rank is summed up over all links.
 */
final class PlainModel {
    private static final int NONE = -1;

    private record Entry(int page, int depth) { }

    private record Rule(String digits, boolean allows) { }

    private static final class Page {
        int host;
        String path;
        List<Integer> body = new ArrayList<>();
        List<Integer> links = new ArrayList<>();
        String reply = "HERE";
        int target;
    }

    private static final class State {
        List<Entry> queue = new ArrayList<>();
        Set<Integer> queued = new HashSet<>();
        Set<Integer> fetched = new HashSet<>();
        List<Integer> corpus = new ArrayList<>();

        State copy() {
            State other = new State();
            other.queue.addAll(queue);
            other.queued.addAll(queued);
            other.fetched.addAll(fetched);
            other.corpus.addAll(corpus);
            return other;
        }
    }

    private final List<Page> pages = new ArrayList<>();
    private final List<List<Rule>> rules = new ArrayList<>();
    private final List<Integer> firsts = new ArrayList<>();
    private State state;
    private State mark;
    private int sinceMark;
    private int limit;
    private int hops;
    private int delay;
    private int every;
    private int now;
    private int fetches;
    private int[] from;

    PlainModel() {
        for (int host = 0; host < 6; host++) {
            rules.add(new ArrayList<>());
        }
    }

    private boolean isPage(int p) {
        return p >= 0 && p < pages.size();
    }

    int page(int host, int path) {
        if (state != null || host < 0 || host > 5 || path < 1 || path > 999999 || pages.size() == 32) {
            return NONE;
        }
        for (Page page : pages) {
            if (page.host == host && page.path.equals(String.valueOf(path))) {
                return NONE;
            }
        }
        Page page = new Page();
        page.host = host;
        page.path = String.valueOf(path);
        pages.add(page);
        return pages.size() - 1;
    }

    boolean write(int p, int word) {
        if (state != null || !isPage(p) || word < 0 || word > 25 || pages.get(p).body.size() == 8) {
            return false;
        }
        return pages.get(p).body.add(word);
    }

    boolean link(int p, int q) {
        if (state != null || !isPage(p) || !isPage(q) || pages.get(p).links.size() == 5) {
            return false;
        }
        return pages.get(p).links.add(q);
    }

    boolean move(int p, int q) {
        if (state != null || !isPage(p) || !isPage(q)) {
            return false;
        }
        pages.get(p).reply = "MOVED";
        pages.get(p).target = q;
        return true;
    }

    boolean drop(int p) {
        if (state != null || !isPage(p)) {
            return false;
        }
        pages.get(p).reply = "GONE";
        return true;
    }

    boolean rule(int host, int prefix, boolean allows) {
        if (state != null || host < 0 || host > 5 || prefix < 0 || prefix > 999999
            || rules.get(host).size() == 4) {
            return false;
        }
        return rules.get(host).add(new Rule(prefix == 0 ? "" : String.valueOf(prefix), allows));
    }

    boolean first(int p) {
        if (state != null || !isPage(p) || firsts.size() == 6) {
            return false;
        }
        return firsts.add(p);
    }

    boolean begin(int limit, int hops, int delay, int every) {
        if (state != null || limit < 0 || limit > 6 || hops < 0 || hops > 4 || delay < 0 || delay > 9
            || every < 1 || every > 8 || firsts.isEmpty()) {
            return false;
        }
        this.limit = limit;
        this.hops = hops;
        this.delay = delay;
        this.every = every;
        state = new State();
        now = 0;
        fetches = 0;
        from = new int[6];
        for (int p : firsts) {
            enqueue(p, 0);
        }
        mark = state.copy();
        sinceMark = 0;
        return true;
    }

    private void enqueue(int p, int depth) {
        if (state.queued.add(p)) {
            state.queue.add(new Entry(p, depth));
        }
    }

    boolean stop() {
        boolean was = state != null;
        state = null;
        return was;
    }

    int work(int n) {
        if (state == null || n < 1 || n > 10) {
            return NONE;
        }
        int before = fetches;
        for (int i = 0; i < n; i++) {
            if (!state.queue.isEmpty()) {
                handle(state.queue.remove(0));
            }
        }
        return fetches - before;
    }

    private void handle(Entry entry) {
        List<Integer> looked = new ArrayList<>();
        int goal = chase(entry.page, looked);
        for (int p : looked) {
            if (allowed(p) && state.fetched.add(p)) {
                int host = pages.get(p).host;
                int t = Math.max(now, from[host]);
                from[host] = t + delay;
                now = t + 1;
                fetches++;
            }
        }
        if (goal != NONE) {
            if (!state.corpus.contains(goal)) {
                state.corpus.add(goal);
            }
            // Also for a page gathered before: its links are queued already then, if the depth is less.
            if (entry.depth < limit) {
                for (int q : pages.get(goal).links) {
                    enqueue(q, entry.depth + 1);
                }
            }
        }
        sinceMark++;
        if (sinceMark == every) {
            mark = state.copy();
            sinceMark = 0;
        }
    }

    private int chase(int p, List<Integer> looked) {
        int made = 0;
        while (true) {
            looked.add(p);
            Page page = pages.get(p);
            if (!allowed(p) || page.reply.equals("GONE")) {
                return NONE;
            }
            if (page.reply.equals("HERE")) {
                return p;
            }
            if (made == hops) {
                return NONE;
            }
            made++;
            p = page.target;
        }
    }

    int crash() {
        if (state == null) {
            return NONE;
        }
        int lost = sinceMark;
        state = mark.copy();
        sinceMark = 0;
        for (int host = 0; host < 6; host++) {
            from[host] = now + delay;
        }
        return lost;
    }

    boolean allowed(int p) {
        if (!isPage(p)) {
            return false;
        }
        Page page = pages.get(p);
        int most = -1;
        for (Rule rule : rules.get(page.host)) {
            if (page.path.startsWith(rule.digits)) {
                most = Math.max(most, rule.digits.length());
            }
        }
        if (most == -1) {
            return true;
        }
        for (Rule rule : rules.get(page.host)) {
            if (page.path.startsWith(rule.digits) && rule.digits.length() == most && rule.allows) {
                return true;
            }
        }
        return false;
    }

    int found(int p) {
        return state == null || !isPage(p) ? NONE : chase(p, new ArrayList<>());
    }

    int clock() {
        return state == null ? 0 : now;
    }

    int fetches() {
        return state == null ? 0 : fetches;
    }

    int waiting() {
        return state == null ? 0 : state.queue.size();
    }

    int corpusAt(int i) {
        return state == null || i < 0 || i >= state.corpus.size() ? NONE : state.corpus.get(i);
    }

    int document(int p) {
        if (state == null || !state.corpus.contains(p)) {
            return NONE;
        }
        for (int c : state.corpus) {
            if (pages.get(c).body.equals(pages.get(p).body)) {
                return c;
            }
        }
        return NONE;
    }

    private List<Integer> documents() {
        List<Integer> all = new ArrayList<>(state.corpus);
        all.removeIf(p -> document(p) != p);
        return all;
    }

    long rank(int p, int rounds) {
        if (state == null || rounds < 0 || rounds > 12 || !documents().contains(p)) {
            return 0;
        }
        return ranks(rounds)[p];
    }

    private long[] ranks(int rounds) {
        List<Integer> documents = documents();
        long[] ranks = new long[32];
        for (int d : documents) {
            ranks[d] = 1000000;
        }
        for (int round = 0; round < rounds; round++) {
            long[] next = new long[32];
            for (int d : documents) {
                next[d] = 150000 + 85 * sumFor(d, documents, ranks) / 100;
            }
            ranks = next;
        }
        return ranks;
    }

    private long sumFor(int d, List<Integer> documents, long[] ranks) {
        long sum = 0;
        for (int e : documents) {
            List<Integer> leads = new ArrayList<>();
            for (int q : pages.get(e).links) {
                int lead = document(found(q));
                if (lead != NONE) {
                    leads.add(lead);
                }
            }
            for (int lead : leads) {
                if (lead == d) {
                    sum += ranks[e] / leads.size();
                }
            }
        }
        return sum;
    }

    int best(int v, int w, int k) {
        if (state == null) {
            return NONE;
        }
        long[] ranks = ranks(8);
        long[] scores = new long[32];
        for (int d : documents()) {
            scores[d] = ranks[d] * pages.get(d).body.stream().filter(x -> x == v || x == w).count();
        }
        List<Integer> order = documents();
        order.removeIf(d -> scores[d] <= 0);
        order.sort((d, e) -> {
            Page a = pages.get(d);
            Page b = pages.get(e);
            if (scores[d] != scores[e]) {
                return Long.compare(scores[e], scores[d]);
            }
            return a.host != b.host ? a.host - b.host : Integer.parseInt(a.path) - Integer.parseInt(b.path);
        });
        return k < 0 || k >= order.size() ? NONE : order.get(k);
    }
}
