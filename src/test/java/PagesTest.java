/** Promises 1 to 4: a new object, page, word, renew. */
final class PagesTest {
    private PagesTest() {
    }

    static void run(Check check) {
        newObject(check);
        page(check);
        word(check);
        wordsStandInTheirRow(check);
        renew(check);
        renewIsOfOnePage(check);
        renewForgetsWhatWasTold(check);
        renewMakesRoomForRules(check);
    }

    private static void newObject(Check check) {
        check.promise("1 A new object");
        check.due("NONE", -1, FoundFirst.NONE);
        FoundFirst house = new FoundFirst();
        check.none("word(0, 0, 0)", house.word(0, 0, 0));
        check.no("renew(0, 0, 0)", house.renew(0, 0, 0));
        check.none("finds(0)", house.finds(0));
        check.none("place(0, 0)", house.place(0, 0));
        check.none("why(0, 0, 8)", house.why(0, 0, 8));
        check.none("worth(0)", house.worth(0));
        check.due("all(false)", 0, house.all(false));
        check.due("all(true)", 0, house.all(true));
        check.none("step()", house.step());
        check.no("back(0)", house.back(0));
        check.none("lost(0, 0, 0)", house.lost(0, 0, 0));
        check.none("mix(0, 0, 0, 0)", house.mix(0, 0, 0, 0));
        check.none("mixed(0, 0)", house.mixed(0, 0));
        check.none("click(0)", house.click(0));
        check.due("trial(0)", 0, house.trial(0));
        check.due("trial(1)", 0, house.trial(1));
        check.due("trial(2)", 0, house.trial(2));
        check.none("trial(3)", house.trial(3));
        for (int k = 0; k < 3; k++) {
            check.no("again(" + k + ")", house.again(k));
        }
        Given.weightsAre(check, house, 1, 1, 1, 1, 1);
        FoundFirst other = new FoundFirst();
        house.page(0, 0, 0);
        check.due("page on another object", 0, other.page(0, 0, 0));
    }

    private static void page(Check check) {
        check.promise("2 page");
        FoundFirst house = new FoundFirst();
        for (int wrong : Given.WRONG) {
            check.none("page(kind " + wrong + ")", house.page(wrong, 0, 0));
            check.none("page(age " + wrong + ")", house.page(0, wrong, 0));
            check.none("page(visits " + wrong + ")", house.page(0, 0, wrong));
        }
        check.none("page(4, 0, 0)", house.page(4, 0, 0));
        check.none("page(0, 101, 0)", house.page(0, 101, 0));
        check.none("page(0, 0, 1001)", house.page(0, 0, 1001));
        check.due("page(0, 0, 0)", 0, house.page(0, 0, 0));
        check.due("page(3, 100, 1000)", 1, house.page(3, 100, 1000));
        for (int i = 2; i < 24; i++) {
            check.due("page " + i, i, house.page(i % 4, i, i));
        }
        check.none("page 24", house.page(0, 0, 0));
        check.none("page 24 again", house.page(0, 0, 0));
        check.due("word(23, 0, 0)", 1, house.word(23, 0, 0));
        house.query(1, false);
        check.due("finds(0), the others having no words", 1, house.finds(0));
    }

    private static void word(Check check) {
        check.promise("3 word");
        FoundFirst house = new FoundFirst();
        house.page(0, 0, 0);
        for (int wrong : Given.WRONG) {
            check.none("word(page " + wrong + ")", house.word(wrong, 0, 0));
            check.none("word(field " + wrong + ")", house.word(0, wrong, 0));
            check.none("word(word " + wrong + ")", house.word(0, 0, wrong));
        }
        check.none("word(1, 0, 0)", house.word(1, 0, 0));
        check.none("word(0, 2, 0)", house.word(0, 2, 0));
        check.none("word(0, 0, 64)", house.word(0, 0, 64));
        for (int i = 1; i <= 10; i++) {
            check.due("word(0, 0, 63)", i, house.word(0, 0, 63));
        }
        check.none("an eleventh word", house.word(0, 0, 5));
        check.due("the other field", 1, house.word(0, 1, 0));
        house.query(1 << 31, true);
        house.query(1, false);
        house.query(1 << 5, false);
        check.due("finds(0), word 63", 1, house.finds(0));
        check.due("finds(1), word 0", 1, house.finds(1));
        check.due("finds(2), the refused word", 0, house.finds(2));
    }

    private static void wordsStandInTheirRow(Check check) {
        FoundFirst house = new FoundFirst();
        house.page(0, 0, 0);
        house.page(0, 0, 0);
        Given.words(house, 0, 1, 1, 9, 9, 2, 1);
        Given.words(house, 1, 1, 1, 9, 1, 9, 2);
        house.query(6, false);
        check.due("nearness of a shorter stretch behind", 8, house.why(0, 0, 2));
        check.due("nearness by the later word", 7, house.why(0, 1, 2));
    }

    private static void renew(Check check) {
        check.promise("4 renew");
        FoundFirst house = new FoundFirst();
        house.page(2, 50, 50);
        Given.words(house, 0, 0, 1, 1, 1, 1, 1, 1, 1, 1, 1, 1);
        Given.words(house, 0, 1, 1, 1);
        house.query(2, false);
        for (int wrong : Given.WRONG) {
            check.no("renew(page " + wrong + ")", house.renew(wrong, 0, 0));
            check.no("renew(age " + wrong + ")", house.renew(0, wrong, 0));
            check.no("renew(visits " + wrong + ")", house.renew(0, 0, wrong));
        }
        check.no("renew(1, 0, 0)", house.renew(1, 0, 0));
        check.no("renew(0, 101, 0)", house.renew(0, 101, 0));
        check.no("renew(0, 0, 1001)", house.renew(0, 0, 1001));
        check.due("finds(0) after refusals", 1, house.finds(0));
        check.due("fresh after refusals", 5, house.why(0, 0, 3));
        check.yes("renew(0, 100, 1000)", house.renew(0, 100, 1000));
        check.due("finds(0)", 0, house.finds(0));
        check.due("word(0, 0, 1)", 1, house.word(0, 0, 1));
        check.due("word(0, 1, 2)", 1, house.word(0, 1, 2));
        check.due("finds(0)", 1, house.finds(0));
        check.due("title", 1, house.why(0, 0, 0));
        check.due("body", 0, house.why(0, 0, 1));
        check.due("near", 0, house.why(0, 0, 2));
        check.due("fresh", 0, house.why(0, 0, 3));
        check.due("seen", 4, house.why(0, 0, 4));
        check.yes("renew(0, 0, 0)", house.renew(0, 0, 0));
    }

    private static void renewIsOfOnePage(Check check) {
        FoundFirst house = new FoundFirst();
        for (int p = 0; p < 4; p++) {
            house.page(0, 0, 0);
            Given.words(house, p, 0, 0, 0);
            Given.words(house, p, 1, 0, 0, 0);
        }
        house.query(1, false);
        house.renew(2, 0, 0);
        check.due("finds(0)", 3, house.finds(0));
        for (int p = 0; p < 4; p++) {
            check.due("word(" + p + ", 0, 1)", p == 2 ? 1 : 3, house.word(p, 0, 1));
            check.due("word(" + p + ", 1, 1)", p == 2 ? 1 : 4, house.word(p, 1, 1));
        }
    }

    private static void renewForgetsWhatWasTold(Check check) {
        FoundFirst house = Given.pagesByAge(new int[] {0, 0, 0, 1}, new int[] {0, 0, 0, 0});
        house.query(1, false);
        house.rule(0, 2, 1);
        house.rule(1, 2, 2);
        house.rule(0, 3, 1);
        house.grade(0, 2, 3);
        house.grade(1, 2, 2);
        house.grade(1, 3, 1);
        house.renew(2, 0, 0);
        house.word(2, 0, 0);
        check.due("grade for query 0", 0, house.why(0, 2, 8));
        check.due("grade for query 1", 0, house.why(1, 2, 8));
        check.due("another page's grade", 1, house.why(1, 3, 8));
        check.due("another page's pin", 1, house.why(0, 3, 7));
        check.due("late by its kind as before", 3, house.why(0, 2, 7));
        check.due("late by its kind as before", 3, house.why(1, 2, 7));
        Given.orderIs(check, house, 0, 3, 0, 1, 2);
    }

    private static void renewMakesRoomForRules(Check check) {
        FoundFirst house = new FoundFirst();
        for (int p = 0; p < 3; p++) {
            house.page(0, 0, 0);
        }
        for (int q = 0; q < 10; q++) {
            house.query(1, false);
            house.rule(q, 0, 1);
            house.rule(q, 1, 2);
        }
        check.no("a rule beyond 20", house.rule(0, 2, 1));
        house.renew(0, 0, 0);
        for (int q = 0; q < 10; q++) {
            check.yes("rule(" + q + ", 2, 1)", house.rule(q, 2, 1));
        }
        check.no("a rule beyond 20 again", house.rule(0, 0, 1));
    }
}
