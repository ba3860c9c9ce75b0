/**
 * Promises 7 and 13 at their edges: the rules of a host, and what they match. For each sentence that
 * names an edge, a test of its own; the sentence stands above its test.
 */
public final class RuleBoundariesTest {
    private static final Checks CHECKS = new Checks();
    private static final int NONE = PoliteGatherer.NONE;

    public static void main(String[] args) {
        ruleHost();
        rulePrefix();
        ruleFull();
        ruleFullIsOfOneHost();
        ruleUnderWay();

        allowedNoPage();
        allowedWithoutGathering();
        allowedNoRuleMatches();
        matchesItself();
        matchesDigitsOnly();
        matchesZeros();
        matchesEmptyPrefix();
        mostDigits();
        mostDigitsOfThoseThatMatch();
        equalDigitsOneAllows();
        rulesOfItsHostOnly();
        CHECKS.end();
    }

    private static Run run(String sentence) {
        return new Run(CHECKS, sentence);
    }

    /** Whether a page with this path is allowed by rules that are told as prefixes, those that bar below 0. */
    private static void allows(String sentence, int path, boolean want, int... rules) {
        Run x = run(sentence);
        x.page(3, path).is(0);
        for (int rule : rules) {
            x.rule(3, Math.abs(rule), rule > 0).is(true);
        }
        x.allowed(0).is(want);
    }

    // Promise 7

    // "host .. is out of range"
    private static void ruleHost() {
        Run x = run("7: host is out of range");
        for (int host = 0; host <= 5; host++) {
            x.page(host, 1).is(host);
        }
        for (int host : Outside.of(0, 5)) {
            x.rule(host, 0, false).is(false);
            x.rule(host, 0, true).is(false);
        }
        for (int host = 0; host <= 5; host++) {
            x.allowed(host).is(true);
            x.rule(host, 0, false).is(true);
            x.allowed(host).is(false);
        }
    }

    // "prefix is out of range"; "each with a PREFIX 0 .. 999999"
    private static void rulePrefix() {
        Run x = run("7: prefix is out of range");
        x.page(0, 999999).is(0);
        x.page(0, 1).is(1);
        for (int prefix : Outside.of(0, 999999)) {
            x.rule(0, prefix, false).is(false);
            x.rule(0, prefix, true).is(false);
        }
        x.allowed(0).is(true);
        x.rule(0, 999999, false).is(true);
        x.allowed(0).is(false);
        x.allowed(1).is(true);
        x.rule(0, 0, false).is(true);
        x.allowed(1).is(false);
        x.rule(0, 1, true).is(true);
        x.allowed(1).is(true);
        x.rule(0, 999998, true).is(true);
        x.allowed(0).is(false);
        x.rule(0, 999999, true).is(false);
    }

    // "the host has 4 rules"
    private static void ruleFull() {
        Run x = run("7: the host has 4 rules");
        x.page(2, 5).is(0);
        x.rule(2, 0, false).is(true);
        x.rule(2, 0, false).is(true);
        x.rule(2, 6, true).is(true);
        x.allowed(0).is(false);
        x.rule(2, 5, true).is(true);
        x.allowed(0).is(true);
        x.rule(2, 5, false).is(false);
        x.rule(2, 55, false).is(false);
        x.rule(2, 0, true).is(false);
        x.rule(2, 1000000, true).is(false);
        x.allowed(0).is(true);
    }

    // "A host has at most 4 RULES"
    private static void ruleFullIsOfOneHost() {
        Run x = run("7: each host has its own 4 rules");
        for (int host = 0; host <= 5; host++) {
            x.page(host, 7).is(host);
            for (int i = 0; i < 3; i++) {
                x.rule(host, 70, false).is(true);
            }
        }
        for (int host = 5; host >= 0; host--) {
            x.allowed(host).is(true);
            x.rule(host, 7, false).is(true);
            x.allowed(host).is(false);
            x.rule(host, 7, true).is(false);
            x.allowed(host).is(false);
        }
    }

    // "Refused, false: a gathering is under way"
    private static void ruleUnderWay() {
        Run x = run("7: a gathering is under way");
        x.page(1, 7).is(0);
        x.first(0).is(true);
        x.begin(0, 0, 0, 1).is(true);
        x.rule(1, 7, false).is(false);
        x.allowed(0).is(true);
        x.work(10).is(1);
        x.rule(1, 7, false).is(false);
        x.stop().is(true);
        x.allowed(0).is(true);
        for (int i = 0; i < 4; i++) {
            x.rule(1, 7, false).is(true);
        }
        x.rule(1, 7, false).is(false);
        x.allowed(0).is(false);
    }

    // Promise 13

    // "false when p is no page"
    private static void allowedNoPage() {
        Run x = run("13: p is no page");
        x.allowed(0).is(false);
        x.page(0, 1).is(0);
        x.page(0, 2).is(1);
        x.rule(0, 0, true).is(true);
        x.first(0).is(true);
        for (int p : Outside.of(0, 1)) {
            x.allowed(p).is(false);
        }
        x.allowed(0).is(true);
        x.allowed(1).is(true);
        x.begin(0, 0, 0, 1).is(true);
        for (int p : Outside.of(0, 1)) {
            x.allowed(p).is(false);
        }
        x.allowed(0).is(true);
        x.allowed(1).is(true);
    }

    // "also without a gathering"
    private static void allowedWithoutGathering() {
        Run x = run("13: also without a gathering");
        x.page(0, 1).is(0);
        x.page(0, 2).is(1);
        x.rule(0, 2, false).is(true);
        x.first(1).is(true);
        x.allowed(0).is(true);
        x.allowed(1).is(false);
        x.begin(0, 0, 0, 1).is(true);
        x.allowed(0).is(true);
        x.allowed(1).is(false);
        x.work(10).is(0);
        x.allowed(0).is(true);
        x.allowed(1).is(false);
        x.stop().is(true);
        x.allowed(0).is(true);
        x.allowed(1).is(false);
        // A page that is gone or moved is allowed all the same.
        x.drop(0).is(true);
        x.allowed(0).is(true);
        x.move(0, 1).is(true);
        x.allowed(0).is(true);
    }

    // "A page is ALLOWED when no rule of its host matches its path"
    private static void allowedNoRuleMatches() {
        allows("13: no rule", 5, true);
        allows("13: no rule that matches, one bars", 5, true, -6);
        allows("13: no rule that matches, all bar", 5, true, -6, -51, -4, -500000);
        allows("13: no rule that matches, one allows", 5, true, 6);
        allows("13: the last of four rules matches", 5, false, -6, -51, -4, -5);
        allows("13: the first of four rules matches", 5, false, -5, -6, -51, -4);
    }

    // "(a path begins with itself)"
    private static void matchesItself() {
        for (int path : new int[] {1, 9, 10, 99, 100, 123456, 100000, 999999}) {
            allows("13: a path begins with itself", path, false, -path);
        }
        allows("13: a prefix is longer by a digit", 99999, true, -999999);
        allows("13: a prefix is longer by a nought", 10, true, -100);
        allows("13: a prefix is shorter by a digit", 999999, false, -99999);
    }

    // "when the path, written in decimal digits, begins with the digits of the prefix"
    private static void matchesDigitsOnly() {
        int[] begins = {1, 12, 123, 1234, 12345, 123456};
        for (int prefix : begins) {
            allows("13: 123456 begins with it", 123456, false, -prefix);
        }
        int[] others = {2, 3, 6, 13, 23, 56, 122, 124, 456, 1235, 3456, 12344, 12346, 23456, 123455, 123457};
        for (int prefix : others) {
            allows("13: 123456 does not begin with it", 123456, true, -prefix);
        }
        allows("13: a lesser number is no prefix", 5, true, -4);
        allows("13: 1 stands in 21, but at its end", 21, true, -1);
        allows("13: 21 begins with 2", 21, false, -2);
    }

    // "begins with the digits of the prefix", these ending with 0
    private static void matchesZeros() {
        for (int prefix = 1; prefix <= 100000; prefix *= 10) {
            allows("13: 100000 begins with it", 100000, false, -prefix);
            allows("13: only 1 is a prefix of 1", 1, prefix > 1, -prefix);
            allows("13: 200000 does not begin with it", 200000, true, -prefix);
        }
        allows("13: 101 does not begin with 100", 101, true, -100);
        allows("13: 101 begins with 10", 101, false, -10);
    }

    // "the prefix 0 has no digits and matches every path"
    private static void matchesEmptyPrefix() {
        for (int path : new int[] {1, 9, 10, 99, 100000, 500005, 999999}) {
            Run x = run("13: the prefix 0 matches every path");
            x.page(3, path).is(0);
            x.rule(3, 0, false).is(true);
            x.allowed(0).is(false);
            x.rule(3, 0, false).is(true);
            x.allowed(0).is(false);
            x.rule(3, 0, true).is(true);
            x.allowed(0).is(true);
        }
    }

    // "of those that match, among the ones whose prefix has the most digits there is one that allows"
    private static void mostDigits() {
        allows("13: one digit more allows, behind", 999999, true, -99999, 999999);
        allows("13: one digit more allows, before", 999999, true, 999999, -99999);
        allows("13: one digit more bars, behind", 999999, false, 99999, -999999);
        allows("13: one digit more bars, before", 999999, false, -999999, 99999);
        allows("13: the longest of three bars", 777, false, 7, -777, 77);
        allows("13: the longest of three allows", 777, true, -7, 777, -77);
        allows("13: many that are shorter do not count", 777, false, 7, 77, -777, 7);
        allows("13: that a shorter one allows does not count", 777, false, 77, 77, -777);
        Run x = run("13: one digit is more than none");
        x.page(3, 4).is(0);
        x.rule(3, 0, false).is(true);
        x.rule(3, 4, true).is(true);
        x.allowed(0).is(true);
        x.page(2, 4).is(1);
        x.rule(2, 4, false).is(true);
        x.rule(2, 0, true).is(true);
        x.allowed(1).is(false);
    }

    // "of those that match"
    private static void mostDigitsOfThoseThatMatch() {
        allows("13: a longer one that does not match does not allow", 77, false, -7, 778, 78);
        allows("13: a longer one that does not match does not bar", 77, true, 7, -778, -78);
        allows("13: an equal one that does not match does not allow", 77, false, -77, 78, 76);
    }

    // "there is one that allows"
    private static void equalDigitsOneAllows() {
        allows("13: the first of two allows", 77, true, 77, -77);
        allows("13: the second of two allows", 77, true, -77, 77);
        allows("13: the first of four allows", 77, true, 77, -77, -77, -77);
        allows("13: the third of four allows", 77, true, -77, -77, 77, -77);
        allows("13: the last of four allows", 77, true, -77, -77, -77, 77);
        allows("13: none of four allows", 77, false, -77, -77, -77, -77);
        allows("13: two that allow are shorter than two that bar", 77, false, 7, -77, 7, -77);
        allows("13: a longer one comes between two that are equal", 77, true, -7, 77, 7, -77);
        allows("13: a longer one that bars comes last", 77, false, -7, 7, -77);
    }

    // "no rule of its host"
    private static void rulesOfItsHostOnly() {
        Run x = run("13: rules of its host");
        for (int host = 0; host <= 5; host++) {
            x.page(host, 8).is(host);
        }
        x.rule(0, 8, false).is(true);
        x.rule(5, 0, false).is(true);
        x.allowed(0).is(false);
        for (int host = 1; host <= 4; host++) {
            x.allowed(host).is(true);
        }
        x.allowed(5).is(false);
        x.allowed(NONE).is(false);
    }
}
