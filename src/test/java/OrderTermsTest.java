/** Terms 2: the order, rules, grades and worth; each sentence with its edge. */
final class OrderTermsTest {
    private OrderTermsTest() {
    }

    static void run(Check check) {
        noFinds(check);
        pinnedOnesFirst(check);
        greatestScoreFirst(check);
        alikeByNumber(check);
        thirdOfItsKind(check);
        lateBehindAllThatAreNot(check);
        lateOnesInTheSameOrder(check);
        pinnedAndSunkAreNotAmongThem(check);
        sunkOnesLast(check);
        laterWordCounts(check);
        twentyInAll(check);
        roomForAnotherRule(check);
        pinnedAgainAmongTwenty(check);
        gradesAtFirst(check);
        scoreOfPinnedAndSunkOnes(check);
        worthOfTheFirstFive(check);
        worthOfFewerThanFive(check);
        worthInAll(check);
    }

    private static FoundFirst alike(int... kinds) {
        return Given.pagesByAge(kinds, new int[kinds.length]);
    }

    private static void noFinds(Check check) {
        check.promise("10 to 14: a query without finds");
        FoundFirst house = alike(0, 0);
        house.query(1, true);
        house.grade(1, 0, 3);
        house.rule(1, 0, 1);
        check.due("finds(1)", 0, house.finds(1));
        check.none("place(1, 0)", house.place(1, 0));
        check.due("worth(1)", 0, house.worth(1));
        FoundFirst empty = new FoundFirst();
        empty.query(1, false);
        check.due("finds(0) without pages", 0, empty.finds(0));
        check.none("place(0, 0) without pages", empty.place(0, 0));
        check.due("worth(0) without pages", 0, empty.worth(0));
        check.due("all(false) without pages", 0, empty.all(false));
    }

    private static void pinnedOnesFirst(Check check) {
        check.promise("Terms 2: first those that are PINNED, in the order in which they were PINNED");
        FoundFirst house = Given.pagesByAge(new int[] {0, 0, 0, 0, 0}, new int[] {0, 10, 20, 30, 40});
        int[] pinned = {3, 1, 4, 2};
        for (int page : pinned) {
            house.rule(0, page, 1);
        }
        Given.orderIs(check, house, 0, 3, 1, 4, 2, 0);
        for (int page : pinned) {
            check.due("pinned, not late: " + page, 1, house.why(0, page, 7));
        }
        house.weight(3, 0);
        Given.orderIs(check, house, 0, 3, 1, 4, 2, 0);
        house.rule(0, 0, 1);
        Given.orderIs(check, house, 0, 3, 1, 4, 2, 0);
        check.yes("the last one again", house.rule(0, 0, 1));
        Given.orderIs(check, house, 0, 3, 1, 4, 2, 0);
        check.yes("the first one again", house.rule(0, 3, 1));
        Given.orderIs(check, house, 0, 1, 4, 2, 0, 3);
    }

    private static void greatestScoreFirst(Check check) {
        check.promise("Terms 2: the others by SCORE, the greatest first");
        FoundFirst house = Given.pagesByAge(new int[] {0, 1, 2, 3, 0, 1}, new int[] {30, 90, 0, 100, 50, 10});
        Given.orderIs(check, house, 0, 2, 5, 0, 4, 1, 3);
        house.weight(3, 20);
        Given.orderIs(check, house, 0, 2, 5, 0, 4, 1, 3);
        house.word(3, 0, 0);
        Given.orderIs(check, house, 0, 2, 5, 0, 4, 1, 3);
        house.word(3, 1, 0);
        house.weight(2, 20);
        house.weight(1, 20);
        Given.orderIs(check, house, 0, 2, 3, 5, 0, 4, 1);
        check.due("1 + 20 * 1 + 20 * 9 of page 3 is no more", 201, house.why(0, 3, 5));
        check.due("than 1 + 20 * 10 of page 2", 201, house.why(0, 2, 5));
    }

    private static void alikeByNumber(Check check) {
        check.promise("Terms 2: of several alike the lesser number first");
        FoundFirst house = Given.pagesByAge(new int[] {0, 1, 2, 3, 0, 1, 2, 3},
                new int[] {70, 60, 50, 40, 30, 20, 10, 0});
        Given.orderIs(check, house, 0, 7, 6, 5, 4, 3, 2, 1, 0);
        house.weight(3, 0);
        Given.orderIs(check, house, 0, 0, 1, 2, 3, 4, 5, 6, 7);
        FoundFirst late = alike(2, 2, 2, 2, 2);
        Given.orderIs(check, late, 0, 0, 1, 2, 3, 4);
        for (int p = 4; p >= 0; p--) {
            late.rule(0, p, 2);
        }
        Given.orderIs(check, late, 0, 0, 1, 2, 3, 4);
    }

    private static void thirdOfItsKind(Check check) {
        check.promise("Terms 2: the third or a further one of its KIND");
        for (int kind = 0; kind < 4; kind++) {
            int other = 3 - kind;
            FoundFirst two = alike(kind, kind, other);
            Given.orderIs(check, two, 0, 0, 1, 2);
            check.due("the second", 0, two.why(0, 1, 7));
            FoundFirst three = alike(kind, kind, kind, other);
            Given.orderIs(check, three, 0, 0, 1, 3, 2);
            check.due("the third", 3, three.why(0, 2, 7));
            check.due("the other kind's first", 0, three.why(0, 3, 7));
            FoundFirst four = alike(kind, kind, kind, kind, other);
            Given.orderIs(check, four, 0, 0, 1, 4, 2, 3);
            check.due("the fourth", 3, four.why(0, 3, 7));
        }
    }

    private static void lateBehindAllThatAreNot(Check check) {
        check.promise("Terms 2: goes behind all those of which this is not so");
        FoundFirst house = Given.pagesByAge(new int[] {0, 0, 0, 1, 2, 3}, new int[] {0, 0, 0, 80, 90, 100});
        Given.orderIs(check, house, 0, 0, 1, 3, 4, 5, 2);
        check.due("the greatest score is late", 11, house.why(0, 2, 5));
        check.due("the least score is not", 1, house.why(0, 5, 5));
        house.rule(0, 1, 2);
        Given.orderIs(check, house, 0, 0, 2, 3, 4, 5, 1);
        check.due("it is late no more", 0, house.why(0, 2, 7));
        FoundFirst bySunk = Given.pagesByAge(new int[] {0, 0, 0, 1}, new int[] {50, 50, 60, 0});
        bySunk.rule(0, 3, 2);
        Given.orderIs(check, bySunk, 0, 0, 1, 2, 3);
        check.due("a late one ahead of one sunk", 3, bySunk.why(0, 2, 7));
    }

    private static void lateOnesInTheSameOrder(Check check) {
        check.promise("Terms 2: these late ones in the same order among them");
        FoundFirst house = Given.pagesByAge(new int[] {0, 0, 0, 1, 1, 1, 0, 1},
                new int[] {0, 10, 50, 20, 30, 40, 40, 60});
        Given.orderIs(check, house, 0, 0, 1, 3, 4, 5, 6, 2, 7);
        house.weight(3, 0);
        Given.orderIs(check, house, 0, 0, 1, 3, 4, 2, 5, 6, 7);
    }

    private static void pinnedAndSunkAreNotAmongThem(Check check) {
        check.promise("Terms 2: the third of its KIND among them, not among PINNED and SUNK ones");
        FoundFirst house = alike(1, 1, 1, 1, 1, 1, 2);
        house.rule(0, 0, 1);
        house.rule(0, 1, 1);
        house.rule(0, 2, 2);
        Given.orderIs(check, house, 0, 0, 1, 3, 4, 6, 5, 2);
        int[] standing = {1, 1, 2, 0, 0, 3, 0};
        for (int p = 0; p < standing.length; p++) {
            check.due("why(0, " + p + ", 7)", standing[p], house.why(0, p, 7));
        }
    }

    private static void sunkOnesLast(Check check) {
        check.promise("Terms 2: then those that are SUNK, by SCORE and number");
        FoundFirst house = Given.pagesByAge(new int[] {0, 0, 0, 0, 0}, new int[] {90, 0, 10, 10, 100});
        int[] sunk = {3, 2, 1};
        for (int page : sunk) {
            house.rule(0, page, 2);
        }
        Given.orderIs(check, house, 0, 0, 4, 1, 2, 3);
        for (int page : sunk) {
            check.due("sunk, not late: " + page, 2, house.why(0, page, 7));
        }
        house.rule(0, 0, 2);
        house.rule(0, 4, 2);
        Given.orderIs(check, house, 0, 1, 2, 3, 0, 4);
    }

    private static void laterWordCounts(Check check) {
        check.promise("Terms 2: whoever is PINNED is not SUNK, and the other way round");
        FoundFirst house = alike(0, 1, 2);
        int[] told = {1, 2, 1, 0, 2, 1, 2, 0};
        int[][] orders = {{2, 0, 1}, {0, 1, 2}, {2, 0, 1}, {0, 1, 2}, {0, 1, 2}, {2, 0, 1}, {0, 1, 2}, {0, 1, 2}};
        for (int i = 0; i < told.length; i++) {
            check.yes("rule(0, 2, " + told[i] + ")", house.rule(0, 2, told[i]));
            check.due("why(0, 2, 7)", told[i], house.why(0, 2, 7));
            Given.orderIs(check, house, 0, orders[i]);
        }
        house.rule(0, 1, 1);
        house.rule(0, 2, 1);
        house.rule(0, 1, 2);
        house.rule(0, 1, 1);
        Given.orderIs(check, house, 0, 2, 1, 0);
    }

    /** Each mix of pinned and sunk ones fills the twenty, over several queries. */
    private static void twentyInAll(Check check) {
        check.promise("Terms 2: at most 20 PINNED or SUNK in all; 8 rule: or there are 20");
        for (int pinned = 0; pinned <= 20; pinned++) {
            FoundFirst house = alike(0, 0, 0);
            for (int q = 1; q < 8; q++) {
                house.query(1, false);
            }
            for (int i = 0; i < 20; i++) {
                check.yes("rule " + i, house.rule(i / 3, i % 3, i < pinned ? 1 : 2));
            }
            check.no("a 21st, pinned", house.rule(7, 0, 1));
            check.no("a 21st, sunk", house.rule(7, 0, 2));
            check.no("a 21st for a query that has rules", house.rule(6, 2, 2));
            check.due("none of it is told", 0, house.why(7, 0, 7));
            check.due("the 20th is told", pinned == 20 ? 1 : 2, house.why(6, 1, 7));
        }
    }

    private static FoundFirst twentyRules() {
        FoundFirst house = new FoundFirst();
        for (int p = 0; p < 24; p++) {
            house.page(p % 4, 0, 0);
            house.word(p, 0, 0);
        }
        house.query(1, false);
        for (int p = 0; p < 20; p++) {
            house.rule(0, p, p < 10 ? 1 : 2);
        }
        return house;
    }

    private static void roomForAnotherRule(Check check) {
        FoundFirst house = twentyRules();
        check.yes("one pinned is taken back", house.rule(0, 0, 0));
        check.yes("another pinned", house.rule(0, 20, 1));
        check.no("one more", house.rule(0, 21, 1));
        check.yes("one sunk is taken back", house.rule(0, 19, 0));
        check.yes("another sunk", house.rule(0, 21, 2));
        check.no("one more", house.rule(0, 22, 2));
        check.yes("a page is renewed", house.renew(5, 0, 0));
        check.yes("room by that", house.rule(0, 23, 1));
        check.no("one more", house.rule(0, 22, 1));
        check.no("the renewed one", house.rule(0, 5, 1));
    }

    private static void pinnedAgainAmongTwenty(Check check) {
        FoundFirst house = twentyRules();
        check.yes("pinned again", house.rule(0, 0, 1));
        check.due("behind all others", 9, house.why(0, 0, 6));
        check.yes("sunk instead", house.rule(0, 0, 2));
        check.yes("pinned instead", house.rule(0, 19, 1));
        check.due("behind all others", 9, house.why(0, 19, 6));
        check.no("sunk as it was", house.rule(0, 0, 2));
        check.no("there are 20 still", house.rule(0, 20, 1));
    }

    private static void gradesAtFirst(Check check) {
        check.promise("Terms 2: GRADES, 0 .. 3 (0 at first)");
        FoundFirst house = alike(0, 1);
        house.query(1, true);
        for (int q = 0; q < 2; q++) {
            for (int p = 0; p < 2; p++) {
                check.due("at first", 0, house.why(q, p, 8));
                for (int grade = 3; grade >= 0; grade--) {
                    check.yes("grade(" + q + ", " + p + ", " + grade + ")", house.grade(q, p, grade));
                    check.due("then", grade, house.why(q, p, 8));
                }
            }
        }
    }

    private static void scoreOfPinnedAndSunkOnes(Check check) {
        check.promise("12 why: 5: SCORE, of one PINNED, SUNK or late, too");
        FoundFirst house = Given.pagesByAge(new int[] {0, 0, 0, 0, 0}, new int[] {10, 20, 30, 40, 50});
        house.rule(0, 0, 1);
        house.rule(0, 4, 1);
        house.rule(0, 1, 2);
        house.rule(0, 2, 2);
        for (int weight = 0; weight <= 20; weight += 4) {
            house.weight(3, weight);
            for (int p = 0; p < 5; p++) {
                check.due("score of " + p, 1 + weight * (9 - p), house.why(0, p, 5));
            }
        }
        house.rule(0, 2, 0);
        house.rule(0, 1, 0);
        house.rule(0, 0, 0);
        check.due("late", 3, house.why(0, 3, 7));
        check.due("its score", 1 + 20 * 6, house.why(0, 3, 5));
    }

    private static void worthOfTheFirstFive(Check check) {
        check.promise("Terms 2: WORTH: of the first five of THE ORDER 60 * GRADE / place");
        int[] each = {60, 30, 20, 15, 12, 0};
        FoundFirst house = alike(0, 0, 1, 1, 2, 2);
        for (int k = 0; k < 6; k++) {
            for (int grade = 0; grade <= 3; grade++) {
                house.grade(0, k, grade);
                check.due("grade " + grade + " at place " + (k + 1), each[k] * grade, house.worth(0));
            }
            house.grade(0, k, 0);
        }
        house.grade(0, 5, 3);
        check.yes("the sixth is pinned", house.rule(0, 5, 1));
        check.due("then it counts", 180, house.worth(0));
        check.yes("it is sunk", house.rule(0, 5, 2));
        check.due("then it does not", 0, house.worth(0));
        house.grade(0, 4, 1);
        check.due("the fifth does", 12, house.worth(0));
        FoundFirst late = alike(0, 0, 0, 1, 1, 2);
        late.grade(0, 2, 3);
        check.due("late behind five others", 0, late.worth(0));
    }

    private static void worthOfFewerThanFive(Check check) {
        int[] sums = {0, 180, 270, 330, 375, 411, 411};
        for (int finds = 0; finds <= 6; finds++) {
            FoundFirst house = alike(new int[finds]);
            for (int p = 0; p < finds; p++) {
                house.grade(0, p, 3);
            }
            check.due("worth of " + finds, sums[finds], house.worth(0));
            check.due("in all", sums[finds], house.all(false));
        }
    }

    private static void worthInAll(Check check) {
        check.promise("Terms 2: WORTH in all: of QUERIES that are not HELD OUT; and apart, of those that are");
        FoundFirst house = alike(0);
        check.due("all(true) without any", 0, house.all(true));
        for (int q = 1; q < 12; q++) {
            house.query(1, false);
        }
        for (int q = 0; q < 12; q++) {
            house.grade(q, 0, 3);
        }
        for (int held = 0; held <= 12; held++) {
            check.due("all(false), " + held + " held out", 180 * (12 - held), house.all(false));
            check.due("all(true), " + held + " held out", 180 * held, house.all(true));
            check.due("hold", held < 12 ? 1 : 0, house.hold(11 - held, true) ? 1 : 0);
        }
        for (int q = 0; q < 12; q++) {
            check.yes("hold(" + q + ", false)", house.hold(q, false));
        }
        check.due("all(false)", 180 * 12, house.all(false));
        check.due("all(true)", 0, house.all(true));
    }
}
