/** Promises 1 to 8 and 13: the web, its rules and its first pages. */
public final class WebTest {
    private static final Checks CHECKS = new Checks();

    public static void main(String[] args) {
        promise1NewObject();
        promise2Page();
        promise3Write();
        promise4Link();
        promise5Move();
        promise6Drop();
        promise7Rule();
        promise8First();
        promise13Allowed();
        promise13LongestPrefix();
        nothingChangesDuringGathering();
        CHECKS.end();
    }

    private static PoliteGatherer webOf(int pages) {
        PoliteGatherer x = new PoliteGatherer();
        for (int i = 0; i < pages; i++) {
            CHECKS.due("page(0, " + (i + 1) + ")", x.page(0, i + 1), i);
        }
        return x;
    }

    private static void promise1NewObject() {
        PoliteGatherer x = new PoliteGatherer();
        CHECKS.due("1: write(0, 0)", x.write(0, 0), false);
        CHECKS.due("1: link(0, 0)", x.link(0, 0), false);
        CHECKS.due("1: move(0, 0)", x.move(0, 0), false);
        CHECKS.due("1: drop(0)", x.drop(0), false);
        CHECKS.due("1: first(0)", x.first(0), false);
        CHECKS.due("1: begin(0, 0, 0, 1)", x.begin(0, 0, 0, 1), false);
        CHECKS.due("1: stop()", x.stop(), false);
        CHECKS.due("1: work(1)", x.work(1), -1);
        CHECKS.due("1: crash()", x.crash(), -1);
        CHECKS.due("1: allowed(0)", x.allowed(0), false);
        CHECKS.due("1: found(0)", x.found(0), -1);
        CHECKS.due("1: clock()", x.clock(), 0);
        CHECKS.due("1: fetches()", x.fetches(), 0);
        CHECKS.due("1: waiting()", x.waiting(), 0);
        CHECKS.due("1: corpusAt(0)", x.corpusAt(0), -1);
        CHECKS.due("1: document(0)", x.document(0), -1);
        CHECKS.due("1: rank(0, 0)", x.rank(0, 0), 0);
        CHECKS.due("1: best(0, 0, 0)", x.best(0, 0, 0), -1);
        CHECKS.due("1: page(0, 1)", x.page(0, 1), 0);
        CHECKS.due("1: a web without rules allows", x.allowed(0), true);
        PoliteGatherer y = new PoliteGatherer();
        CHECKS.due("1: objects share nothing", y.page(0, 1), 0);
    }

    private static void promise2Page() {
        PoliteGatherer x = new PoliteGatherer();
        CHECKS.due("2: page(-1, 1)", x.page(-1, 1), -1);
        CHECKS.due("2: page(6, 1)", x.page(6, 1), -1);
        CHECKS.due("2: page(0, 0)", x.page(0, 0), -1);
        CHECKS.due("2: page(0, -5)", x.page(0, -5), -1);
        CHECKS.due("2: page(0, 1000000)", x.page(0, 1000000), -1);
        CHECKS.due("2: page(MIN, MAX)", x.page(Integer.MIN_VALUE, Integer.MAX_VALUE), -1);
        CHECKS.due("2: page(0, 1)", x.page(0, 1), 0);
        CHECKS.due("2: page(5, 999999)", x.page(5, 999999), 1);
        CHECKS.due("2: page(0, 1) again", x.page(0, 1), -1);
        CHECKS.due("2: page(5, 1), the same path", x.page(5, 1), 2);
        CHECKS.due("2: page(0, 999999), the same host", x.page(0, 999999), 3);
        for (int i = 4; i < 32; i++) {
            CHECKS.due("2: page(3, " + i + ")", x.page(3, i), i);
        }
        CHECKS.due("2: the 33rd page", x.page(3, 32), -1);
        CHECKS.due("2: allowed(31)", x.allowed(31), true);
        CHECKS.due("2: allowed(32)", x.allowed(32), false);
        x.first(31);
        x.begin(6, 0, 0, 1);
        CHECKS.due("2: a new page is here", x.found(31), 31);
        CHECKS.due("2: a new page has no links", x.work(10), 1);
        CHECKS.due("2: a new page has an empty body", x.best(0, 25, 0), -1);
    }

    private static void promise3Write() {
        PoliteGatherer x = webOf(2);
        CHECKS.due("3: write(-1, 0)", x.write(-1, 0), false);
        CHECKS.due("3: write(2, 0)", x.write(2, 0), false);
        CHECKS.due("3: write(0, -1)", x.write(0, -1), false);
        CHECKS.due("3: write(0, 26)", x.write(0, 26), false);
        for (int i = 0; i < 8; i++) {
            CHECKS.due("3: write(0, " + (i % 2 * 25) + ")", x.write(0, i % 2 * 25), true);
        }
        CHECKS.due("3: the 9th word", x.write(0, 7), false);
        for (int i = 0; i < 7; i++) {
            CHECKS.due("3: write(1, 0)", x.write(1, 0), true);
        }
        x.first(0);
        x.first(1);
        x.begin(0, 0, 0, 1);
        x.work(10);
        CHECKS.due("3: seven places before four", x.best(0, 0, 0), 1);
        CHECKS.due("3: four places", x.best(0, 0, 1), 0);
        CHECKS.due("3: eight places before seven", x.best(0, 25, 0), 0);
        CHECKS.due("3: the refused word does not stand", x.best(7, 7, 0), -1);
    }

    private static void promise4Link() {
        PoliteGatherer x = webOf(7);
        CHECKS.due("4: link(-1, 0)", x.link(-1, 0), false);
        CHECKS.due("4: link(7, 0)", x.link(7, 0), false);
        CHECKS.due("4: link(0, -1)", x.link(0, -1), false);
        CHECKS.due("4: link(0, 7)", x.link(0, 7), false);
        CHECKS.due("4: link(0, 0), to itself", x.link(0, 0), true);
        CHECKS.due("4: link(0, 3)", x.link(0, 3), true);
        CHECKS.due("4: link(0, 3) again", x.link(0, 3), true);
        CHECKS.due("4: link(0, 1)", x.link(0, 1), true);
        CHECKS.due("4: link(0, 2)", x.link(0, 2), true);
        CHECKS.due("4: the 6th link", x.link(0, 4), false);
        x.first(0);
        x.begin(1, 0, 0, 1);
        CHECKS.due("4: all that is linked", x.work(10), 4);
        CHECKS.due("4: first link", x.corpusAt(1), 3);
        CHECKS.due("4: second link", x.corpusAt(2), 1);
        CHECKS.due("4: third link", x.corpusAt(3), 2);
    }

    private static void promise5Move() {
        PoliteGatherer x = webOf(3);
        CHECKS.due("5: move(-1, 0)", x.move(-1, 0), false);
        CHECKS.due("5: move(3, 0)", x.move(3, 0), false);
        CHECKS.due("5: move(0, -1)", x.move(0, -1), false);
        CHECKS.due("5: move(0, 3)", x.move(0, 3), false);
        x.first(0);
        x.begin(0, 4, 0, 1);
        CHECKS.due("5: a refused move changes nothing", x.found(0), 0);
        x.stop();
        CHECKS.due("5: move(0, 1)", x.move(0, 1), true);
        CHECKS.due("5: move(2, 2)", x.move(2, 2), true);
        x.begin(0, 4, 0, 1);
        CHECKS.due("5: moved to 1", x.found(0), 1);
        CHECKS.due("5: moved to itself", x.found(2), -1);
        x.stop();
        CHECKS.due("5: drop(0)", x.drop(0), true);
        CHECKS.due("5: move(0, 1) after drop", x.move(0, 1), true);
        CHECKS.due("5: move(2, 1), moved once more", x.move(2, 1), true);
        x.begin(0, 4, 0, 1);
        CHECKS.due("5: a gone page can be moved", x.found(0), 1);
        CHECKS.due("5: a moved page can be moved", x.found(2), 1);
    }

    private static void promise6Drop() {
        PoliteGatherer x = webOf(3);
        CHECKS.due("6: drop(-1)", x.drop(-1), false);
        CHECKS.due("6: drop(3)", x.drop(3), false);
        CHECKS.due("6: drop(0)", x.drop(0), true);
        CHECKS.due("6: drop(0) again", x.drop(0), true);
        CHECKS.due("6: move(1, 0)", x.move(1, 0), true);
        x.first(0);
        x.begin(0, 4, 0, 1);
        CHECKS.due("6: gone", x.found(0), -1);
        CHECKS.due("6: moved to what is gone", x.found(1), -1);
        CHECKS.due("6: here", x.found(2), 2);
        CHECKS.due("6: what is gone is fetched", x.work(1), 1);
        CHECKS.due("6: and not gathered", x.corpusAt(0), -1);
    }

    private static void promise7Rule() {
        PoliteGatherer x = webOf(1);
        CHECKS.due("7: rule(-1, 0, false)", x.rule(-1, 0, false), false);
        CHECKS.due("7: rule(6, 0, false)", x.rule(6, 0, false), false);
        CHECKS.due("7: rule(0, -1, false)", x.rule(0, -1, false), false);
        CHECKS.due("7: rule(0, 1000000, false)", x.rule(0, 1000000, false), false);
        CHECKS.due("7: refused rules change nothing", x.allowed(0), true);
        CHECKS.due("7: rule(0, 0, false)", x.rule(0, 0, false), true);
        CHECKS.due("7: barred", x.allowed(0), false);
        CHECKS.due("7: rule(0, 999999, false)", x.rule(0, 999999, false), true);
        CHECKS.due("7: the same rule again", x.rule(0, 999999, false), true);
        CHECKS.due("7: the 4th rule", x.rule(0, 2, true), true);
        CHECKS.due("7: the 5th rule", x.rule(0, 1, true), false);
        CHECKS.due("7: the 5th rule changes nothing", x.allowed(0), false);
        CHECKS.due("7: rule(5, 999999, true), another host", x.rule(5, 999999, true), true);
    }

    private static void promise8First() {
        PoliteGatherer x = webOf(7);
        CHECKS.due("8: first(-1)", x.first(-1), false);
        CHECKS.due("8: first(7)", x.first(7), false);
        CHECKS.due("8: nothing was added", x.begin(0, 0, 0, 1), false);
        CHECKS.due("8: first(4)", x.first(4), true);
        CHECKS.due("8: first(4) again", x.first(4), true);
        CHECKS.due("8: first(2)", x.first(2), true);
        CHECKS.due("8: first(0)", x.first(0), true);
        CHECKS.due("8: first(4) once more", x.first(4), true);
        CHECKS.due("8: the 6th", x.first(6), true);
        CHECKS.due("8: the 7th", x.first(5), false);
        x.begin(0, 0, 0, 1);
        CHECKS.due("8: each is queued once", x.waiting(), 4);
        CHECKS.due("8: all are fetched", x.work(10), 4);
        CHECKS.due("8: corpusAt(0)", x.corpusAt(0), 4);
        CHECKS.due("8: corpusAt(1)", x.corpusAt(1), 2);
        CHECKS.due("8: corpusAt(2)", x.corpusAt(2), 0);
        CHECKS.due("8: corpusAt(3)", x.corpusAt(3), 6);
    }

    private static void promise13Allowed() {
        PoliteGatherer x = new PoliteGatherer();
        x.page(2, 120);
        x.page(2, 12);
        x.page(2, 1);
        x.page(2, 21);
        x.page(3, 12);
        x.page(2, 112);
        CHECKS.due("13: rule(2, 12, false)", x.rule(2, 12, false), true);
        CHECKS.due("13: 120 begins with 12", x.allowed(0), false);
        CHECKS.due("13: 12 begins with itself", x.allowed(1), false);
        CHECKS.due("13: 1 does not begin with 12", x.allowed(2), true);
        CHECKS.due("13: 21 does not begin with 12", x.allowed(3), true);
        CHECKS.due("13: another host", x.allowed(4), true);
        CHECKS.due("13: 112 ends with 12", x.allowed(5), true);
        CHECKS.due("13: allowed(-1)", x.allowed(-1), false);
        CHECKS.due("13: allowed(6)", x.allowed(6), false);
        CHECKS.due("13: allowed(MAX)", x.allowed(Integer.MAX_VALUE), false);
        x.first(2);
        x.begin(0, 0, 0, 1);
        CHECKS.due("13: barred during a gathering", x.allowed(1), false);
        CHECKS.due("13: allowed during a gathering", x.allowed(2), true);
    }

    private static void promise13LongestPrefix() {
        PoliteGatherer x = new PoliteGatherer();
        x.page(0, 999999);
        x.page(0, 99);
        x.page(0, 5);
        x.rule(0, 999999, true);
        x.rule(0, 9, false);
        CHECKS.due("13: the longer allows, told first", x.allowed(0), true);
        CHECKS.due("13: only the shorter matches", x.allowed(1), false);
        CHECKS.due("13: none matches", x.allowed(2), true);
        x.rule(0, 0, true);
        CHECKS.due("13: the empty prefix is the shortest", x.allowed(1), false);
        x.rule(0, 999999, false);
        CHECKS.due("13: of equal prefixes one allows", x.allowed(0), true);
        x.page(1, 77);
        x.rule(1, 7, true);
        x.rule(1, 77, false);
        CHECKS.due("13: the longer bars", x.allowed(3), false);
        x.rule(1, 77, true);
        CHECKS.due("13: the later of equal prefixes allows", x.allowed(3), true);
        x.page(2, 4);
        x.rule(2, 0, true);
        x.rule(2, 0, false);
        CHECKS.due("13: of two empty prefixes one allows", x.allowed(4), true);
        x.rule(2, 4, false);
        CHECKS.due("13: one digit is more than none", x.allowed(4), false);
    }

    private static void nothingChangesDuringGathering() {
        PoliteGatherer x = webOf(2);
        x.first(0);
        x.begin(6, 4, 0, 1);
        CHECKS.due("2: page during a gathering", x.page(1, 1), -1);
        CHECKS.due("3: write during a gathering", x.write(0, 3), false);
        CHECKS.due("4: link during a gathering", x.link(0, 1), false);
        CHECKS.due("5: move during a gathering", x.move(0, 1), false);
        CHECKS.due("6: drop during a gathering", x.drop(0), false);
        CHECKS.due("7: rule during a gathering", x.rule(0, 0, false), false);
        CHECKS.due("8: first during a gathering", x.first(1), false);
        CHECKS.due("9: begin during a gathering", x.begin(6, 4, 0, 1), false);
        CHECKS.due("the page is here", x.found(0), 0);
        CHECKS.due("no page was added", x.allowed(2), false);
        CHECKS.due("one first page, no link", x.work(10), 1);
        CHECKS.due("no word was written", x.best(3, 3, 0), -1);
        x.stop();
        CHECKS.due("2: page after the gathering", x.page(1, 1), 2);
        CHECKS.due("3: write after the gathering", x.write(0, 3), true);
        CHECKS.due("4: link after the gathering", x.link(0, 1), true);
        CHECKS.due("7: rule after the gathering", x.rule(1, 0, false), true);
        CHECKS.due("8: first after the gathering", x.first(2), true);
        x.begin(6, 4, 0, 1);
        CHECKS.due("all of it counts then", x.work(10), 2);
        CHECKS.due("the word counts then", x.best(3, 3, 0), 0);
    }
}
