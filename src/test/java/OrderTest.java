/** Promises 10 to 14: finds, place, why, worth, all. */
final class OrderTest {
    private OrderTest() {
    }

    static void run(Check check) {
        finds(check);
        place(check);
        lateOnesOfSeveralKinds(check);
        rulesAreApartFromKinds(check);
        sunkOnesByScoreAndNumber(check);
        marks(check);
        why(check);
        worth(check);
        all(check);
    }

    private static void finds(Check check) {
        check.promise("10 finds");
        FoundFirst house = new FoundFirst();
        for (int p = 0; p < 6; p++) {
            house.page(0, 0, 0);
        }
        Given.words(house, 0, 0, 1, 2, 3);
        Given.words(house, 1, 1, 3, 2, 1);
        Given.words(house, 2, 0, 1, 2);
        Given.words(house, 2, 1, 3);
        Given.words(house, 3, 0, 1, 2);
        Given.words(house, 4, 1, 1, 1, 1);
        house.query(14, false);
        house.query(2, false);
        house.query(14, true);
        check.due("finds of three words", 3, house.finds(0));
        check.due("finds of one word", 5, house.finds(1));
        check.due("finds of words of the other half", 0, house.finds(2));
        for (int wrong : Given.WRONG) {
            check.none("finds(" + wrong + ")", house.finds(wrong));
        }
        check.none("finds(3)", house.finds(3));
        house.word(3, 1, 3);
        check.due("finds after a word came", 4, house.finds(0));
    }

    private static void place(Check check) {
        check.promise("11 place");
        FoundFirst house = Given.pagesByAge(new int[] {0, 0, 0, 0, 1, 1, 1, 2},
                new int[] {50, 0, 0, 10, 90, 80, 100, 100});
        Given.orderIs(check, house, 0, 1, 2, 5, 4, 7, 3, 0, 6);
        for (int wrong : Given.WRONG) {
            check.none("place(0, " + wrong + ")", house.place(0, wrong));
            check.none("place(" + wrong + ", 0)", house.place(wrong, 0));
        }
        check.none("place(1, 0)", house.place(1, 0));
        house.weight(3, 0);
        Given.orderIs(check, house, 0, 0, 1, 4, 5, 7, 2, 3, 6);
    }

    private static void lateOnesOfSeveralKinds(Check check) {
        FoundFirst house = Given.pagesByAge(new int[] {3, 2, 3, 2, 3, 2, 3, 2},
                new int[] {70, 60, 50, 40, 30, 20, 10, 0});
        Given.orderIs(check, house, 0, 7, 6, 5, 4, 3, 2, 1, 0);
        check.due("the second of its kind", 0, house.why(0, 5, 7));
        check.due("the third of its kind", 3, house.why(0, 3, 7));
        check.due("the fourth of its kind", 3, house.why(0, 1, 7));
    }

    private static void rulesAreApartFromKinds(Check check) {
        FoundFirst house = Given.pagesByAge(new int[] {0, 0, 0, 0, 1}, new int[] {0, 10, 20, 30, 90});
        Given.orderIs(check, house, 0, 0, 1, 4, 2, 3);
        house.rule(0, 0, 1);
        Given.orderIs(check, house, 0, 0, 1, 2, 4, 3);
        house.rule(0, 1, 2);
        Given.orderIs(check, house, 0, 0, 2, 3, 4, 1);
    }

    private static void sunkOnesByScoreAndNumber(Check check) {
        FoundFirst house = Given.pagesByAge(new int[] {0, 0, 0, 0, 0}, new int[] {90, 50, 0, 50, 0});
        house.rule(0, 4, 2);
        house.rule(0, 3, 2);
        house.rule(0, 1, 2);
        house.rule(0, 2, 2);
        Given.orderIs(check, house, 0, 0, 2, 4, 1, 3);
        check.due("sunk, not late", 2, house.why(0, 3, 7));
    }

    private static void marks(Check check) {
        check.promise("12 why");
        int[] visits = {0, 1, 9, 10, 99, 100, 999, 1000};
        int[] seen = {0, 1, 1, 2, 2, 3, 3, 4};
        int[] ages = {0, 1, 10, 11, 90, 91, 99, 100};
        int[] fresh = {10, 9, 9, 8, 1, 0, 0, 0};
        FoundFirst house = new FoundFirst();
        house.query(1, false);
        for (int p = 0; p < 8; p++) {
            house.page(0, ages[p], visits[p]);
            house.word(p, 1, 0);
            check.due("fresh at age " + ages[p], fresh[p], house.why(0, p, 3));
            check.due("seen by " + visits[p], seen[p], house.why(0, p, 4));
        }
        FoundFirst near = new FoundFirst();
        near.query(7, false);
        near.page(0, 0, 0);
        Given.words(near, 0, 1, 0, 9, 9, 9, 1, 9, 9, 9, 9, 2);
        check.due("a stretch of ten", 0, near.why(0, 0, 2));
        near.page(0, 0, 0);
        Given.words(near, 1, 1, 0, 9, 9, 9, 1, 9, 9, 9, 2);
        check.due("a stretch of nine", 1, near.why(0, 1, 2));
        near.page(0, 0, 0);
        Given.words(near, 2, 1, 1, 1, 2, 2, 0, 9, 2, 0, 1, 9);
        check.due("a stretch of three", 7, near.why(0, 2, 2));
        check.due("words in the body, each once", 3, near.why(0, 2, 1));
        near.page(0, 0, 0);
        Given.words(near, 3, 1, 0, 1, 0, 1);
        Given.words(near, 3, 0, 2, 2, 1);
        check.due("no stretch without one word", 0, near.why(0, 3, 2));
        check.due("words in the title, each once", 2, near.why(0, 3, 0));
        check.due("words in the body, each once", 2, near.why(0, 3, 1));
    }

    private static void why(Check check) {
        FoundFirst house = new FoundFirst();
        house.query(3, false);
        house.page(0, 35, 123);
        house.page(1, 0, 0);
        house.page(0, 0, 0);
        Given.words(house, 0, 0, 0, 5);
        Given.words(house, 0, 1, 1, 5, 0);
        Given.words(house, 2, 1, 0, 1);
        int[] due = {1, 2, 7, 6, 3, 19, 0, 0, 0};
        house.rule(0, 2, 2);
        for (int what = 0; what < due.length; what++) {
            check.due("why(0, 0, " + what + ")", due[what], house.why(0, 0, what));
            if (what < 8) {
                check.none("why(0, 1, " + what + ")", house.why(0, 1, what));
            }
        }
        check.due("why(0, 1, 8) of what is no find", 0, house.why(0, 1, 8));
        int[] weights = {20, 3, 5, 7, 11};
        for (int mark = 0; mark < 5; mark++) {
            house.weight(mark, weights[mark]);
        }
        check.due("score by weights", 20 + 6 + 35 + 42 + 33, house.why(0, 0, 5));
        house.rule(0, 0, 1);
        check.due("score of one pinned", 20 + 6 + 35 + 42 + 33, house.why(0, 0, 5));
        check.due("score of one sunk", 6 + 40 + 70, house.why(0, 2, 5));
        house.weight(0, 19);
        check.due("score of one pinned by other weights", 19 + 6 + 35 + 42 + 33, house.why(0, 0, 5));
        check.due("pinned", 1, house.why(0, 0, 7));
        check.due("sunk", 2, house.why(0, 2, 7));
        check.due("place of one sunk", 1, house.why(0, 2, 6));
        check.none("why(0, 0, 9)", house.why(0, 0, 9));
        for (int wrong : Given.WRONG) {
            check.none("why(0, 0, " + wrong + ")", house.why(0, 0, wrong));
            for (int what = 0; what <= 8; what++) {
                check.none("why(" + wrong + ", 0, " + what + ")", house.why(wrong, 0, what));
                check.none("why(0, " + wrong + ", " + what + ")", house.why(0, wrong, what));
            }
        }
        check.none("why(1, 0, 8)", house.why(1, 0, 8));
        check.none("why(0, 3, 8)", house.why(0, 3, 8));
    }

    private static void worth(Check check) {
        check.promise("13 worth");
        FoundFirst house = Given.pagesByAge(new int[] {0, 0, 1, 1, 2, 2, 3},
                new int[] {0, 10, 20, 30, 40, 50, 60});
        int[] parts = {60, 30, 20, 15, 12, 0, 0};
        check.due("without grades", 0, house.worth(0));
        for (int p = 0; p < 7; p++) {
            for (int grade = 1; grade <= 3; grade++) {
                house.grade(0, p, grade);
                check.due("place " + (p + 1), grade * parts[p], house.worth(0));
            }
            house.grade(0, p, 0);
        }
        for (int p = 0; p < 7; p++) {
            house.grade(0, p, 3);
        }
        check.due("all of grade 3", 411, house.worth(0));
        house.grade(0, 6, 2);
        house.rule(0, 6, 1);
        check.due("with another one pinned", 411 - 60, house.worth(0));
        house.query(2, false);
        house.grade(1, 0, 3);
        check.due("a grade of what is no find", 0, house.worth(1));
        for (int wrong : Given.WRONG) {
            check.none("worth(" + wrong + ")", house.worth(wrong));
        }
        check.none("worth(2)", house.worth(2));
    }

    private static void all(Check check) {
        check.promise("14 all");
        FoundFirst house = Given.pagesByAge(new int[] {0}, new int[] {0});
        house.query(1, false);
        house.query(1, false);
        house.grade(0, 0, 1);
        house.grade(1, 0, 2);
        house.grade(2, 0, 3);
        check.due("all(false)", 360, house.all(false));
        check.due("all(true)", 0, house.all(true));
        house.hold(1, true);
        check.due("all(false)", 240, house.all(false));
        check.due("all(true)", 120, house.all(true));
        house.hold(0, true);
        check.due("all(false)", 180, house.all(false));
        check.due("all(true)", 180, house.all(true));
        house.hold(2, true);
        check.due("all(false)", 0, house.all(false));
        check.due("all(true)", 360, house.all(true));
    }
}
