/** Webs from which many tests start. */
final class Webs {
    private Webs() { }

    /** Pages 0, 1, .. of host 0 with the paths 1, 2, .. */
    static Run pages(Checks checks, String name, int pages) {
        Run x = new Run(checks, name);
        for (int i = 0; i < pages; i++) {
            x.page(0, i + 1).is(i);
        }
        return x;
    }

    /** The same, each with a link to the next, the first one being the first page. */
    static Run chain(Checks checks, String name, int pages) {
        Run x = pages(checks, name, pages);
        for (int i = 0; i + 1 < pages; i++) {
            x.link(i, i + 1).is(true);
        }
        x.first(0).is(true);
        return x;
    }

    /** Pages 0, 1, .. of hosts 0, 1, .., each a first page. */
    static Run hosts(Checks checks, String name, int hosts) {
        Run x = new Run(checks, name);
        for (int i = 0; i < hosts; i++) {
            x.page(i, 1).is(i);
            x.first(i).is(true);
        }
        return x;
    }
}
