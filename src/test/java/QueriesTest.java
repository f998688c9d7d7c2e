/** Promises 5 to 9: query, hold, weight, rule, grade. */
final class QueriesTest {
    private QueriesTest() {
    }

    static void run(Check check) {
        query(check);
        queryIsOfItsHalf(check);
        hold(check);
        weight(check);
        rule(check);
        ruleOfWhatIsNoFind(check);
        ruleLimit(check);
        ruleLimitOfAllQueries(check);
        ruleIsForItsQuery(check);
        grade(check);
    }

    private static void query(Check check) {
        check.promise("5 query");
        FoundFirst house = new FoundFirst();
        check.none("query(0, false)", house.query(0, false));
        check.none("query(0, true)", house.query(0, true));
        check.none("query of four", house.query(15, false));
        check.none("query of four, high", house.query(15, true));
        check.none("query of 32", house.query(-1, false));
        check.due("query of one", 0, house.query(Integer.MIN_VALUE, false));
        check.due("query of two", 1, house.query(3, false));
        check.due("query of three", 2, house.query(7, true));
        check.due("the same query", 3, house.query(7, true));
        for (int q = 4; q < 12; q++) {
            check.due("query " + q, q, house.query(1, false));
        }
        check.none("query 12", house.query(1, false));
        check.none("query 12, high", house.query(1, true));
        check.due("finds(11)", 0, house.finds(11));
        check.none("finds(12)", house.finds(12));
    }

    private static void queryIsOfItsHalf(Check check) {
        FoundFirst house = new FoundFirst();
        int[] words = {0, 31, 32, 63};
        for (int p = 0; p < 4; p++) {
            house.page(0, 0, 0);
            house.word(p, 0, words[p]);
        }
        house.query(1, false);
        house.query(Integer.MIN_VALUE, false);
        house.query(1, true);
        house.query(Integer.MIN_VALUE, true);
        for (int q = 0; q < 4; q++) {
            check.due("finds(" + q + ")", 1, house.finds(q));
            check.due("place(" + q + ", 0)", q, house.place(q, 0));
        }
    }

    private static void hold(Check check) {
        check.promise("6 hold");
        FoundFirst house = new FoundFirst();
        for (int q = 0; q < 12; q++) {
            house.query(1, false);
        }
        house.page(0, 0, 0);
        house.word(0, 0, 0);
        house.grade(11, 0, 1);
        house.grade(10, 0, 3);
        for (int wrong : Given.WRONG) {
            check.no("hold(" + wrong + ", true)", house.hold(wrong, true));
            check.no("hold(" + wrong + ", false)", house.hold(wrong, false));
        }
        check.no("hold(12, true)", house.hold(12, true));
        check.no("hold(11, false) at first", house.hold(11, false));
        check.yes("hold(11, true)", house.hold(11, true));
        check.no("hold(11, true) again", house.hold(11, true));
        check.due("all(true)", 60, house.all(true));
        check.due("all(false)", 180, house.all(false));
        check.yes("hold(11, false)", house.hold(11, false));
        check.no("hold(11, false) again", house.hold(11, false));
        check.due("all(true)", 0, house.all(true));
        check.due("all(false)", 240, house.all(false));
        check.due("worth(11) of one held", 60, house.worth(11));
    }

    private static void weight(Check check) {
        check.promise("7 weight");
        FoundFirst house = new FoundFirst();
        for (int wrong : Given.WRONG) {
            check.no("weight(" + wrong + ", 1)", house.weight(wrong, 1));
            check.no("weight(0, " + wrong + ")", house.weight(0, wrong));
        }
        check.no("weight(5, 1)", house.weight(5, 1));
        check.no("weight(0, 21)", house.weight(0, 21));
        Given.weightsAre(check, house, 1, 1, 1, 1, 1);
        check.yes("weight(0, 1), as it is", house.weight(0, 1));
        for (int mark = 0; mark < 5; mark++) {
            check.yes("weight(" + mark + ", 0)", house.weight(mark, 0));
            check.due("now", 0, house.now(mark));
            check.yes("weight(" + mark + ", 20)", house.weight(mark, 20 - mark));
        }
        Given.weightsAre(check, house, 20, 19, 18, 17, 16);
    }

    private static void rule(Check check) {
        check.promise("8 rule");
        FoundFirst house = Given.pagesByAge(new int[] {0, 1, 2, 3}, new int[] {0, 20, 40, 60});
        for (int wrong : Given.WRONG) {
            check.no("rule(" + wrong + ", 0, 1)", house.rule(wrong, 0, 1));
            check.no("rule(0, " + wrong + ", 1)", house.rule(0, wrong, 1));
            check.no("rule(0, 0, " + wrong + ")", house.rule(0, 0, wrong));
        }
        check.no("rule(1, 0, 1)", house.rule(1, 0, 1));
        check.no("rule(0, 4, 1)", house.rule(0, 4, 1));
        check.no("rule(0, 0, 3)", house.rule(0, 0, 3));
        check.no("rule(0, 0, 0) of one that is neither", house.rule(0, 0, 0));
        check.yes("rule(0, 3, 1)", house.rule(0, 3, 1));
        check.yes("rule(0, 2, 1)", house.rule(0, 2, 1));
        check.yes("rule(0, 1, 1)", house.rule(0, 1, 1));
        Given.orderIs(check, house, 0, 3, 2, 1, 0);
        check.yes("rule(0, 3, 1) again", house.rule(0, 3, 1));
        Given.orderIs(check, house, 0, 2, 1, 3, 0);
        check.yes("rule(0, 1, 0)", house.rule(0, 1, 0));
        check.no("rule(0, 1, 0) again", house.rule(0, 1, 0));
        Given.orderIs(check, house, 0, 2, 3, 0, 1);
        check.yes("rule(0, 2, 2) of one pinned", house.rule(0, 2, 2));
        check.no("rule(0, 2, 2) again", house.rule(0, 2, 2));
        Given.orderIs(check, house, 0, 3, 0, 1, 2);
        check.yes("rule(0, 2, 1) of one sunk", house.rule(0, 2, 1));
        Given.orderIs(check, house, 0, 3, 2, 0, 1);
        check.yes("rule(0, 0, 2)", house.rule(0, 0, 2));
        check.yes("rule(0, 0, 0) of one sunk", house.rule(0, 0, 0));
        check.due("why(0, 0, 7)", 0, house.why(0, 0, 7));
    }

    private static void ruleOfWhatIsNoFind(Check check) {
        FoundFirst house = new FoundFirst();
        house.page(0, 0, 0);
        house.page(0, 0, 0);
        house.word(0, 0, 0);
        house.query(1, false);
        check.yes("a pin of what is no find", house.rule(0, 1, 1));
        Given.orderIs(check, house, 0, 0);
        check.none("why(0, 1, 7)", house.why(0, 1, 7));
        house.word(1, 1, 0);
        Given.orderIs(check, house, 0, 1, 0);
        check.due("why(0, 1, 7)", 1, house.why(0, 1, 7));
    }

    private static void ruleLimit(Check check) {
        FoundFirst house = new FoundFirst();
        for (int p = 0; p < 24; p++) {
            house.page(p % 4, 0, 0);
            house.word(p, 0, 0);
        }
        house.query(1, false);
        house.query(1, false);
        for (int p = 0; p < 20; p++) {
            check.yes("rule " + p, house.rule(p % 2, p, 1 + p % 2));
        }
        check.no("rule 20, pinned", house.rule(0, 20, 1));
        check.no("rule 20, sunk", house.rule(1, 20, 2));
        check.no("rule 20 for the other query", house.rule(1, 0, 1));
        check.no("rule 20, neither", house.rule(0, 20, 0));
        check.yes("one of 20 pinned again", house.rule(0, 0, 1));
        check.due("its place", 9, house.why(0, 0, 6));
        check.yes("one of 20 sunk instead", house.rule(0, 0, 2));
        check.no("rule 20 is still too much", house.rule(0, 20, 1));
        check.yes("one of 20 taken back", house.rule(0, 0, 0));
        check.yes("another in its stead", house.rule(0, 20, 1));
        check.no("one too much again", house.rule(0, 21, 1));
    }

    private static void ruleLimitOfAllQueries(Check check) {
        FoundFirst house = new FoundFirst();
        house.page(0, 0, 0);
        house.page(0, 0, 0);
        house.page(0, 0, 0);
        for (int q = 0; q < 11; q++) {
            house.query(1, false);
        }
        for (int q = 1; q < 11; q++) {
            check.yes("a pin for query " + q, house.rule(q, 1, 1));
            check.yes("a sunk one for query " + q, house.rule(q, 2, 2));
        }
        check.no("a 21st", house.rule(0, 1, 1));
    }

    private static void ruleIsForItsQuery(Check check) {
        FoundFirst house = Given.pagesByAge(new int[] {0, 1}, new int[] {0, 50});
        house.query(1, false);
        house.rule(1, 1, 1);
        Given.orderIs(check, house, 0, 0, 1);
        Given.orderIs(check, house, 1, 1, 0);
    }

    private static void grade(Check check) {
        check.promise("9 grade");
        FoundFirst house = new FoundFirst();
        house.page(0, 0, 0);
        house.page(0, 0, 0);
        house.query(1, false);
        house.query(2, false);
        for (int wrong : Given.WRONG) {
            check.no("grade(" + wrong + ", 0, 1)", house.grade(wrong, 0, 1));
            check.no("grade(0, " + wrong + ", 1)", house.grade(0, wrong, 1));
            check.no("grade(0, 0, " + wrong + ")", house.grade(0, 0, wrong));
        }
        check.no("grade(2, 0, 1)", house.grade(2, 0, 1));
        check.no("grade(0, 2, 1)", house.grade(0, 2, 1));
        check.no("grade(0, 0, 4)", house.grade(0, 0, 4));
        check.due("grade at first", 0, house.why(0, 0, 8));
        check.yes("grade(0, 0, 3) of what is no find", house.grade(0, 0, 3));
        check.yes("grade(0, 0, 3), as it is", house.grade(0, 0, 3));
        check.yes("grade(1, 1, 2)", house.grade(1, 1, 2));
        check.due("why(0, 0, 8)", 3, house.why(0, 0, 8));
        check.due("why(1, 1, 8)", 2, house.why(1, 1, 8));
        check.due("why(0, 1, 8)", 0, house.why(0, 1, 8));
        check.due("why(1, 0, 8)", 0, house.why(1, 0, 8));
        check.yes("grade(0, 0, 0)", house.grade(0, 0, 0));
        check.due("why(0, 0, 8)", 0, house.why(0, 0, 8));
    }
}
