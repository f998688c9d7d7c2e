import java.math.BigInteger;

/** Promises 21 to 25: mix, mixed, click, trial, sure. */
final class MixingTest {
    private MixingTest() {
    }

    static void run(Check check) {
        mix(check);
        mixByRulesAsTheyAre(check);
        mixed(check);
        click(check);
        clicksGoOnOrNot(check);
        trial(check);
        sure(check);
    }

    /** Version 0 has fresh ones first, version 1 those that were seen; query 1 finds nothing. */
    private static FoundFirst freshFirstAndSeenFirst() {
        FoundFirst house = new FoundFirst();
        int[] visits = {0, 0, 1, 1, 10, 10, 100, 1000};
        for (int p = 0; p < 8; p++) {
            house.page(p / 2, p * 10, visits[p]);
            house.word(p, 0, 0);
        }
        house.query(1, false);
        house.query(1, true);
        house.weight(4, 0);
        house.keep();
        house.weight(4, 1);
        house.weight(3, 0);
        house.keep();
        return house;
    }

    private static void listIs(Check check, FoundFirst house, String pages, String sides) {
        for (int k = 0; k < pages.length(); k++) {
            check.due("mixed(" + k + ", 0)", pages.charAt(k) - '0', house.mixed(k, 0));
            check.due("mixed(" + k + ", 1)", sides.charAt(k) == 'a' ? 0 : 1, house.mixed(k, 1));
        }
        check.none("mixed behind the list", house.mixed(pages.length(), 0));
    }

    private static void mix(Check check) {
        check.promise("21 mix");
        FoundFirst house = freshFirstAndSeenFirst();
        house.back(0);
        Given.orderIs(check, house, 0, 0, 1, 2, 3, 4, 5, 6, 7);
        house.back(1);
        Given.orderIs(check, house, 0, 7, 6, 4, 5, 2, 3, 0, 1);
        for (int wrong : Given.WRONG) {
            check.none("mix(" + wrong + ", 0, 1, 0)", house.mix(wrong, 0, 1, 0));
            check.none("mix(0, " + wrong + ", 1, 0)", house.mix(0, wrong, 1, 0));
            check.none("mix(0, 0, " + wrong + ", 0)", house.mix(0, 0, wrong, 0));
        }
        check.none("mix(2, 0, 1, 0)", house.mix(2, 0, 1, 0));
        check.none("mix(0, 2, 1, 0)", house.mix(0, 2, 1, 0));
        check.none("mix(0, 0, 2, 0)", house.mix(0, 0, 2, 0));
        check.none("no list yet", house.mixed(0, 0));
        check.due("mix(0, 0, 1, 0)", 6, house.mix(0, 0, 1, 0));
        listIs(check, house, "706142", "bababa");
        check.due("mix(0, 0, 1, 7)", 6, house.mix(0, 0, 1, 7));
        listIs(check, house, "071624", "ababab");
        check.due("mix(0, 0, 1, 2)", 6, house.mix(0, 0, 1, 2));
        listIs(check, house, "701642", "baabba");
        check.due("mix(0, 0, 1, -4)", 6, house.mix(0, 0, 1, -4));
        listIs(check, house, "706124", "babaab");
        check.due("mix(0, 1, 0, 1)", 6, house.mix(0, 1, 0, 1));
        listIs(check, house, "701624", "abbaba");
        check.due("mix(0, 1, 1, 5)", 6, house.mix(0, 1, 1, 5));
        listIs(check, house, "764523", "abbaab");
        check.none("a mix that is refused", house.mix(0, 0, 2, 0));
        listIs(check, house, "764523", "abbaab");
        check.due("mix of a query without finds", 0, house.mix(1, 0, 1, 0));
        check.none("mixed(0, 0)", house.mixed(0, 0));
        Given.weightsAre(check, house, 1, 1, 1, 0, 1);
    }

    private static void mixByRulesAsTheyAre(Check check) {
        FoundFirst house = freshFirstAndSeenFirst();
        house.rule(0, 4, 1);
        house.rule(0, 0, 2);
        check.due("mix", 6, house.mix(0, 0, 1, 5));
        listIs(check, house, "476125", "abbaab");
    }

    private static void mixed(Check check) {
        check.promise("22 mixed");
        FoundFirst house = freshFirstAndSeenFirst();
        house.mix(0, 0, 1, 1);
        check.due("mixed(0, 0)", 0, house.mixed(0, 0));
        check.due("mixed(0, 1)", 0, house.mixed(0, 1));
        check.due("mixed(1, 1)", 1, house.mixed(1, 1));
        check.none("mixed(0, 2)", house.mixed(0, 2));
        check.none("mixed(6, 0)", house.mixed(6, 0));
        check.none("mixed(6, 1)", house.mixed(6, 1));
        for (int wrong : Given.WRONG) {
            check.none("mixed(" + wrong + ", 0)", house.mixed(wrong, 0));
            check.none("mixed(" + wrong + ", 1)", house.mixed(wrong, 1));
            check.none("mixed(0, " + wrong + ")", house.mixed(0, wrong));
        }
        house.renew(0, 0, 0);
        check.due("the list stays when a page is renewed", 0, house.mixed(0, 0));
        FoundFirst two = Given.freshAgainstSeen();
        two.keep();
        check.due("a list of two", 2, two.mix(0, 0, 0, 0));
        check.due("mixed(1, 0)", 1, two.mixed(1, 0));
        check.none("mixed(2, 0)", two.mixed(2, 0));
    }

    private static void click(Check check) {
        check.promise("23 click");
        FoundFirst house = freshFirstAndSeenFirst();
        check.none("click(0) without a list", house.click(0));
        house.mix(0, 0, 1, 1);
        for (int wrong : Given.WRONG) {
            check.none("click(" + wrong + ")", house.click(wrong));
        }
        check.none("click(6)", house.click(6));
        check.due("click(0)", 1, house.click(0));
        check.due("click(0) again", 2, house.click(0));
        check.due("click(1), of b", 1, house.click(1));
        check.due("click(3), of a", 3, house.click(3));
        for (int i = 4; i <= 54; i++) {
            check.due("click(0)", i, house.click(0));
        }
        check.none("click beyond 55, of a", house.click(0));
        check.none("click beyond 55, of b", house.click(1));
        check.due("trial(0)", 54, house.trial(0));
        check.due("trial(1)", 1, house.trial(1));
        house.mix(0, 0, 1, 0);
        check.none("click beyond 55 in the next list", house.click(0));
        house.mix(0, 1, 0, 0);
        check.due("click by other versions", 1, house.click(0));
    }

    private static void clicksGoOnOrNot(Check check) {
        FoundFirst house = freshFirstAndSeenFirst();
        house.keep();
        house.mix(0, 0, 1, 1);
        house.click(0);
        house.click(1);
        house.click(1);
        house.mix(1, 0, 1, 0);
        check.due("trial(0) by another query", 1, house.trial(0));
        check.none("click(0) on an empty list", house.click(0));
        house.mix(0, 0, 1, 6);
        check.due("click(0), of b, goes on", 3, house.click(0));
        check.none("a mix that is refused", house.mix(0, 0, 3, 0));
        check.due("trial(1) stays", 3, house.trial(1));
        house.mix(0, 0, 2, 1);
        check.due("trial(0) by another b", 0, house.trial(0));
        check.due("trial(1) by another b", 0, house.trial(1));
        house.click(0);
        house.mix(0, 1, 2, 1);
        check.due("trial(0) by another a", 0, house.trial(0));
        house.mix(0, 0, 1, 1);
        check.due("trial(1) by the first ones after others", 0, house.trial(1));
    }

    private static void trial(Check check) {
        check.promise("24 trial");
        FoundFirst house = freshFirstAndSeenFirst();
        house.mix(0, 0, 1, 1);
        check.none("nobody leads", house.trial(3));
        for (int i = 1; i <= 5; i++) {
            house.click(0);
        }
        check.due("trial(0)", 5, house.trial(0));
        check.due("trial(1)", 0, house.trial(1));
        check.due("five of five", 0, house.trial(2));
        check.due("a leads", 0, house.trial(3));
        house.click(0);
        check.due("six of six", 1, house.trial(2));
        house.click(1);
        check.due("six of seven", 0, house.trial(2));
        for (int i = 2; i <= 6; i++) {
            house.click(1);
        }
        check.due("six of twelve", 0, house.trial(2));
        check.none("neither leads", house.trial(3));
        house.click(1);
        check.due("b leads", 1, house.trial(3));
        for (int i = 8; i <= 17; i++) {
            house.click(1);
        }
        check.due("17 of 23 for b", house.sure(17, 23) ? 1 : 0, house.trial(2));
        check.due("17 of 23 for b is sure", 1, house.trial(2));
        check.none("trial(4)", house.trial(4));
        for (int wrong : Given.WRONG) {
            check.none("trial(" + wrong + ")", house.trial(wrong));
        }
    }

    private static void sure(Check check) {
        check.promise("25 sure");
        for (int n = 0; n <= 55; n++) {
            FoundFirst house = new FoundFirst();
            for (int x = 0; x <= n; x++) {
                check.due("sure(" + x + ", " + n + ")", isSure(x, n) ? 1 : 0, house.sure(x, n) ? 1 : 0);
            }
            check.no("sure(-1, " + n + ")", house.sure(-1, n));
            check.no("sure(n + 1, " + n + ")", house.sure(n + 1, n));
        }
        FoundFirst house = new FoundFirst();
        check.no("sure(56, 56)", house.sure(56, 56));
        check.no("sure(0, 56)", house.sure(0, 56));
        check.no("sure(0, 64)", house.sure(0, 64));
        for (int wrong : Given.WRONG) {
            check.no("sure(0, " + wrong + ")", house.sure(0, wrong));
            check.no("sure(" + wrong + ", 55)", house.sure(wrong, 55));
            check.no("sure(" + wrong + ", " + wrong + ")", house.sure(wrong, wrong));
        }
    }

    static boolean isSure(int x, int n) {
        if (2 * x == n) {
            return false;
        }
        int more = Math.max(x, n - x);
        BigInteger rows = BigInteger.ZERO;
        for (int ones = 0; ones <= n; ones++) {
            if (ones >= more || ones <= n - more) {
                rows = rows.add(rowsWith(ones, n));
            }
        }
        return rows.multiply(BigInteger.valueOf(20)).compareTo(BigInteger.TWO.pow(n)) <= 0;
    }

    private static BigInteger rowsWith(int ones, int n) {
        BigInteger above = BigInteger.ONE;
        BigInteger below = BigInteger.ONE;
        for (int i = 1; i <= ones; i++) {
            above = above.multiply(BigInteger.valueOf(n - i + 1));
            below = below.multiply(BigInteger.valueOf(i));
        }
        return above.divide(below);
    }
}
