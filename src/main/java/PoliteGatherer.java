/**
 * Gathers the pages that can be reached from some first ones, politely and in spite of crashes;
 * ranks what was gathered by its links, and answers which pages fit two words best.
 */
public final class PoliteGatherer {
    public static final int NONE = -1;

    private static final int MAX_PAGES = 32;
    private static final int MAX_PATH = 999999;
    private static final int MAX_WORDS = 8;
    private static final int MAX_WORD = 25;
    private static final int MAX_LINKS = 5;
    private static final int HOSTS = 6;
    private static final int MAX_RULES = 4;
    private static final int MAX_PREFIX = 999999;
    private static final int MAX_FIRSTS = 6;
    private static final int MAX_LIMIT = 6;
    private static final int MAX_HOPS = 4;
    private static final int MAX_DELAY = 9;
    private static final int MAX_EVERY = 8;
    private static final int MAX_WORK = 10;
    private static final int MAX_ROUNDS = 12;
    private static final int ROUNDS_OF_SCORE = 8;
    private static final long FIRST_RANK = 1000000L;
    private static final long BASE_RANK = 150000L;
    private static final long PERCENT_PASSED_ON = 85L;

    private final Web web;
    private final Gathering gathering;
    private final Ranking ranking;
    private boolean underWay;

    public PoliteGatherer() {
        web = new Web();
        gathering = new Gathering(web);
        ranking = new Ranking(web, gathering);
        underWay = false;
    }

    public int page(int host, int path) {
        if (underWay) {
            return NONE;
        }
        return web.addPage(host, path);
    }

    public boolean write(int p, int word) {
        return canChange(p) && isWithin(word, 0, MAX_WORD) && web.pages[p].body.add(word);
    }

    public boolean link(int p, int q) {
        return canChange(p) && web.isPage(q) && web.pages[p].links.add(q);
    }

    public boolean move(int p, int q) {
        if (!canChange(p) || !web.isPage(q)) {
            return false;
        }
        web.pages[p].reply = Reply.MOVED;
        web.pages[p].target = q;
        return true;
    }

    public boolean drop(int p) {
        if (!canChange(p)) {
            return false;
        }
        web.pages[p].reply = Reply.GONE;
        return true;
    }

    public boolean rule(int host, int prefix, boolean allows) {
        return !underWay && isHost(host) && isWithin(prefix, 0, MAX_PREFIX)
            && web.hosts[host].addRule(prefix, allows);
    }

    public boolean first(int p) {
        return canChange(p) && web.firsts.add(p);
    }

    public boolean begin(int limit, int hops, int delay, int every) {
        if (underWay || web.firsts.size == 0
            || !isWithin(limit, 0, MAX_LIMIT) || !isWithin(hops, 0, MAX_HOPS)
            || !isWithin(delay, 0, MAX_DELAY) || !isWithin(every, 1, MAX_EVERY)) {
            return false;
        }
        gathering.startAnew(limit, hops, delay, every);
        underWay = true;
        return true;
    }

    public boolean stop() {
        if (!underWay) {
            return false;
        }
        underWay = false;
        return true;
    }

    public int work(int n) {
        if (!underWay || !isWithin(n, 1, MAX_WORK)) {
            return NONE;
        }
        int before = gathering.fetchCount;
        for (int i = 0; i < n && gathering.entriesLeft() > 0; i++) {
            gathering.handleEntry();
        }
        return gathering.fetchCount - before;
    }

    public int crash() {
        if (!underWay) {
            return NONE;
        }
        return gathering.fallBack();
    }

    public boolean allowed(int p) {
        return web.isPage(p) && web.isAllowed(p);
    }

    public int found(int p) {
        if (!underWay || !web.isPage(p)) {
            return NONE;
        }
        return gathering.chase(p, false);
    }

    public int clock() {
        return underWay ? gathering.now : 0;
    }

    public int fetches() {
        return underWay ? gathering.fetchCount : 0;
    }

    public int waiting() {
        return underWay ? gathering.entriesLeft() : 0;
    }

    public int corpusAt(int i) {
        return underWay ? gathering.corpus.at(i) : NONE;
    }

    public int document(int p) {
        return underWay ? ranking.documentOf(p) : NONE;
    }

    public long rank(int p, int rounds) {
        if (!underWay || !isWithin(rounds, 0, MAX_ROUNDS) || !ranking.isDocument(p)) {
            return 0L;
        }
        ranking.computeRanks(rounds);
        return ranking.ranks[p];
    }

    public int best(int v, int w, int k) {
        if (!underWay) {
            return NONE;
        }
        ranking.computeRanks(ROUNDS_OF_SCORE);
        ranking.computeScores(v, w);
        return ranking.documentAtPlace(k);
    }

    private boolean canChange(int p) {
        return !underWay && web.isPage(p);
    }

    private static boolean isWithin(int value, int least, int greatest) {
        return least <= value && value <= greatest;
    }

    private static boolean isHost(int host) {
        return isWithin(host, 0, HOSTS - 1);
    }

    /** A row of numbers that grows at its end up to a bound and can be cut back. */
    private static final class Row {
        private final int[] items;
        private int size;

        Row(int bound) {
            items = new int[bound];
            size = 0;
        }

        boolean add(int item) {
            if (size >= items.length) {
                return false;
            }
            items[size] = item;
            size++;
            return true;
        }

        int at(int i) {
            return 0 <= i && i < size ? items[i] : NONE;
        }

        boolean holds(int item) {
            for (int i = 0; i < size; i++) {
                if (items[i] == item) {
                    return true;
                }
            }
            return false;
        }

        boolean sameAs(Row other) {
            if (size != other.size) {
                return false;
            }
            for (int i = 0; i < size; i++) {
                if (items[i] != other.items[i]) {
                    return false;
                }
            }
            return true;
        }

        void cutTo(int length) {
            size = Math.min(size, length);
        }
    }

    private enum Reply { HERE, MOVED, GONE }

    private static final class Page {
        private final int host;
        private final int path;
        private final Row body;
        private final Row links;
        private Reply reply;
        private int target;

        Page(int host, int path) {
            this.host = host;
            this.path = path;
            body = new Row(MAX_WORDS);
            links = new Row(MAX_LINKS);
            reply = Reply.HERE;
            target = NONE;
        }

        boolean comesBefore(Page other) {
            return host != other.host ? host < other.host : path < other.path;
        }

        int placesOf(int v, int w) {
            int places = 0;
            for (int i = 0; i < body.size; i++) {
                int word = body.at(i);
                if (word == v || word == w) {
                    places++;
                }
            }
            return places;
        }
    }

    private static final class Host {
        private final int[] prefixes;
        private final boolean[] allowing;
        private int ruleCount;

        Host() {
            prefixes = new int[MAX_RULES];
            allowing = new boolean[MAX_RULES];
            ruleCount = 0;
        }

        boolean addRule(int prefix, boolean allows) {
            if (ruleCount >= MAX_RULES) {
                return false;
            }
            prefixes[ruleCount] = prefix;
            allowing[ruleCount] = allows;
            ruleCount++;
            return true;
        }

        /** Of prefixes of one path, more digits make a greater number, so the greatest decides. */
        boolean allowsPath(int path) {
            int longest = NONE;
            boolean allows = true;
            for (int i = 0; i < ruleCount; i++) {
                int prefix = prefixes[i];
                if (prefix < longest || !isPrefix(prefix, path)) {
                    continue;
                }
                allows = allowing[i] || (prefix == longest && allows);
                longest = prefix;
            }
            return allows;
        }

        private static boolean isPrefix(int prefix, int path) {
            for (int head = path; head > 0; head /= 10) {
                if (head == prefix) {
                    return true;
                }
            }
            return prefix == 0;
        }
    }

    private static final class Web {
        private final Page[] pages;
        private final Host[] hosts;
        private final Row firsts;
        private int pageCount;

        Web() {
            pages = new Page[MAX_PAGES];
            hosts = new Host[HOSTS];
            for (int i = 0; i < HOSTS; i++) {
                hosts[i] = new Host();
            }
            firsts = new Row(MAX_FIRSTS);
            pageCount = 0;
        }

        boolean isPage(int p) {
            return 0 <= p && p < pageCount;
        }

        int addPage(int host, int path) {
            if (!isHost(host) || !isWithin(path, 1, MAX_PATH)
                || pageCount >= MAX_PAGES || isTaken(host, path)) {
                return NONE;
            }
            pages[pageCount] = new Page(host, path);
            pageCount++;
            return pageCount - 1;
        }

        private boolean isTaken(int host, int path) {
            for (int p = 0; p < pageCount; p++) {
                if (pages[p].host == host && pages[p].path == path) {
                    return true;
                }
            }
            return false;
        }

        boolean isAllowed(int p) {
            return hosts[pages[p].host].allowsPath(pages[p].path);
        }
    }

    /**
     * The queue, the pages fetched and the corpus are rows that only grow between marks, so that
     * a mark is no more than their lengths, and a crash cuts them back to these.
     */
    private static final class Gathering {
        private final Web web;
        private final Row queued;
        private final Row depths;
        private final Row fetched;
        private final Row corpus;
        private final int[] from;
        private int limit;
        private int hops;
        private int delay;
        private int every;
        private int handled;
        private int now;
        private int fetchCount;
        private int handledAtMark;
        private int queuedAtMark;
        private int fetchedAtMark;
        private int corpusAtMark;

        Gathering(Web web) {
            this.web = web;
            queued = new Row(MAX_PAGES);
            depths = new Row(MAX_PAGES);
            fetched = new Row(MAX_PAGES);
            corpus = new Row(MAX_PAGES);
            from = new int[HOSTS];
        }

        void startAnew(int limit, int hops, int delay, int every) {
            this.limit = limit;
            this.hops = hops;
            this.delay = delay;
            this.every = every;
            queued.cutTo(0);
            depths.cutTo(0);
            fetched.cutTo(0);
            corpus.cutTo(0);
            handled = 0;
            now = 0;
            fetchCount = 0;
            setAllFrom(0);
            enqueueAll(web.firsts, 0);
            setMark();
        }

        int entriesLeft() {
            return queued.size - handled;
        }

        void handleEntry() {
            int page = queued.at(handled);
            int depth = depths.at(handled);
            handled++;
            int goal = chase(page, true);
            if (goal != NONE && !corpus.holds(goal)) {
                corpus.add(goal);
                if (depth < limit) {
                    enqueueAll(web.pages[goal].links, depth + 1);
                }
            }
            if (handled - handledAtMark == every) {
                setMark();
            }
        }

        /** Fetches on the way only if it is told to, since asking what is found fetches nothing. */
        int chase(int start, boolean fetching) {
            int p = start;
            for (int made = 0; made <= hops && web.isAllowed(p); made++) {
                if (fetching) {
                    fetch(p);
                }
                Page page = web.pages[p];
                if (page.reply == Reply.HERE) {
                    return p;
                }
                if (page.reply == Reply.GONE) {
                    return NONE;
                }
                p = page.target;
            }
            return NONE;
        }

        /** Answers how many entries were handled since the mark to which it falls back. */
        int fallBack() {
            int lost = handled - handledAtMark;
            handled = handledAtMark;
            queued.cutTo(queuedAtMark);
            depths.cutTo(queuedAtMark);
            fetched.cutTo(fetchedAtMark);
            corpus.cutTo(corpusAtMark);
            setAllFrom(now + delay);
            return lost;
        }

        private void fetch(int p) {
            if (fetched.holds(p)) {
                return;
            }
            int host = web.pages[p].host;
            int time = Math.max(now, from[host]);
            from[host] = time + delay;
            now = time + 1;
            fetched.add(p);
            fetchCount++;
        }

        private void enqueueAll(Row pages, int depth) {
            for (int i = 0; i < pages.size; i++) {
                int p = pages.at(i);
                if (!queued.holds(p)) {
                    queued.add(p);
                    depths.add(depth);
                }
            }
        }

        private void setAllFrom(int time) {
            for (int host = 0; host < HOSTS; host++) {
                from[host] = time;
            }
        }

        private void setMark() {
            handledAtMark = handled;
            queuedAtMark = queued.size;
            fetchedAtMark = fetched.size;
            corpusAtMark = corpus.size;
        }
    }

    /** Its rows are made once and filled anew by each question, since a gathering changes between. */
    private static final class Ranking {
        private final Web web;
        private final Gathering gathering;
        private final Row documents;
        private final int[][] leads;
        private final int[] leading;
        private final long[] ranks;
        private final long[] sums;
        private final long[] scores;

        Ranking(Web web, Gathering gathering) {
            this.web = web;
            this.gathering = gathering;
            documents = new Row(MAX_PAGES);
            leads = new int[MAX_PAGES][MAX_LINKS];
            leading = new int[MAX_PAGES];
            ranks = new long[MAX_PAGES];
            sums = new long[MAX_PAGES];
            scores = new long[MAX_PAGES];
        }

        int documentOf(int p) {
            if (!gathering.corpus.holds(p)) {
                return NONE;
            }
            Row body = web.pages[p].body;
            for (int i = 0; i < gathering.corpus.size; i++) {
                int c = gathering.corpus.at(i);
                if (web.pages[c].body.sameAs(body)) {
                    return c;
                }
            }
            return NONE;
        }

        boolean isDocument(int p) {
            return p != NONE && documentOf(p) == p;
        }

        void computeRanks(int rounds) {
            listDocuments();
            for (int i = 0; i < documents.size; i++) {
                int d = documents.at(i);
                ranks[d] = FIRST_RANK;
                followLinks(d);
            }
            for (int round = 0; round < rounds; round++) {
                playRound();
            }
        }

        void computeScores(int v, int w) {
            for (int i = 0; i < documents.size; i++) {
                int d = documents.at(i);
                scores[d] = web.pages[d].placesOf(v, w) * ranks[d];
            }
        }

        int documentAtPlace(int k) {
            for (int i = 0; i < documents.size; i++) {
                int d = documents.at(i);
                if (scores[d] > 0 && placeOf(d) == k) {
                    return d;
                }
            }
            return NONE;
        }

        private void listDocuments() {
            documents.cutTo(0);
            for (int i = 0; i < gathering.corpus.size; i++) {
                int c = gathering.corpus.at(i);
                if (isDocument(c)) {
                    documents.add(c);
                }
            }
        }

        private void followLinks(int d) {
            Row links = web.pages[d].links;
            leading[d] = 0;
            for (int i = 0; i < links.size; i++) {
                int goal = gathering.chase(links.at(i), false);
                leads[d][i] = documentOf(goal);
                if (leads[d][i] != NONE) {
                    leading[d]++;
                }
            }
        }

        private void playRound() {
            for (int i = 0; i < documents.size; i++) {
                sums[documents.at(i)] = 0L;
            }
            for (int i = 0; i < documents.size; i++) {
                passOn(documents.at(i));
            }
            for (int i = 0; i < documents.size; i++) {
                int d = documents.at(i);
                ranks[d] = BASE_RANK + PERCENT_PASSED_ON * sums[d] / 100L;
            }
        }

        private void passOn(int e) {
            if (leading[e] == 0) {
                return;
            }
            long share = ranks[e] / leading[e];
            for (int i = 0; i < web.pages[e].links.size; i++) {
                int d = leads[e][i];
                if (d != NONE) {
                    sums[d] += share;
                }
            }
        }

        private int placeOf(int d) {
            int place = 0;
            for (int i = 0; i < documents.size; i++) {
                if (standsBefore(documents.at(i), d)) {
                    place++;
                }
            }
            return place;
        }

        private boolean standsBefore(int d, int e) {
            if (scores[d] != scores[e]) {
                return scores[d] > scores[e];
            }
            return web.pages[d].comesBefore(web.pages[e]);
        }
    }
}
