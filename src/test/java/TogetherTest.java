import java.util.function.Consumer;

/** Sentences that speak of what another call left behind: pages, rules and the nine values of what. */
final class TogetherTest {
    private TogetherTest() {
    }

    static void run(Check check) {
        renewedIsAsNewlyMade(check);
        renewedIsNoFind(check);
        renewedLosesNothing(check);
        rulesOneAfterAnother(check);
        nineValuesOfOnePage(check);
    }

    /** Page 2 is the one that is renewed; its kind is that of pages 0 and 1. */
    private static FoundFirst around(Consumer<FoundFirst> second) {
        FoundFirst house = new FoundFirst();
        house.page(0, 30, 5);
        house.page(0, 40, 50);
        second.accept(house);
        house.page(1, 90, 1000);
        for (int p : new int[] {0, 1, 3}) {
            Given.words(house, p, 0, 1);
            Given.words(house, p, 1, 7, 2, 1);
        }
        house.query(6, false);
        house.query(2, false);
        house.query(4, false);
        house.hold(1, true);
        house.rule(0, 1, 1);
        house.grade(0, 1, 2);
        house.grade(1, 3, 1);
        house.keep();
        house.weight(3, 0);
        house.keep();
        return house;
    }

    private static void tellOfPage(FoundFirst house, int page) {
        house.rule(0, page, 1);
        house.rule(1, page, 2);
        house.rule(2, page, 1);
        for (int q = 0; q < 3; q++) {
            house.grade(q, page, 3);
        }
    }

    private static void giveWords(FoundFirst house) {
        Given.words(house, 2, 0, 2);
        Given.words(house, 2, 1, 1, 2);
    }

    private static void renewedIsAsNewlyMade(Check check) {
        check.promise("4 renew: no words, nor what was told of it, its AGE and VISITS are these; with 8, 10 to 14, 19");
        check.yes("all that can be asked is as of a page made so", Looks.at(() -> {
            FoundFirst house = around(h -> h.page(0, 100, 0));
            Given.words(house, 2, 0, 1, 2, 3, 4, 5, 6, 7, 8, 9, 10);
            Given.words(house, 2, 1, 1, 2, 1, 2, 1, 2, 1, 2, 1, 2);
            tellOfPage(house, 2);
            house.renew(2, 10, 70);
            giveWords(house);
            return house;
        }).equals(Looks.at(() -> {
            FoundFirst house = around(h -> h.page(0, 10, 70));
            giveWords(house);
            return house;
        })));
        check.no("but not if it is told of again", Looks.at(() -> {
            FoundFirst house = around(h -> h.page(0, 10, 70));
            giveWords(house);
            return house;
        }).equals(Looks.at(() -> {
            FoundFirst house = around(h -> h.page(0, 10, 70));
            giveWords(house);
            house.grade(2, 2, 1);
            return house;
        })));
    }

    private static void renewedIsNoFind(Check check) {
        FoundFirst house = around(h -> h.page(0, 10, 70));
        giveWords(house);
        tellOfPage(house, 2);
        check.due("worth(0), pages 1 and 2 pinned", 120 + 90, house.worth(0));
        check.due("all(true), page 3 first and page 2 sunk", 60 + 45, house.all(true));
        house.renew(2, 0, 0);
        for (int q = 0; q < 3; q++) {
            check.due("finds(" + q + ")", 3, house.finds(q));
            check.none("place(" + q + ", 3)", house.place(q, 3));
            for (int what = 0; what < 8; what++) {
                check.none("why(" + q + ", 2, " + what + ")", house.why(q, 2, what));
            }
            check.due("why(" + q + ", 2, 8)", 0, house.why(q, 2, 8));
            check.no("rule(" + q + ", 2, 0): it was so", house.rule(q, 2, 0));
        }
        Given.orderIs(check, house, 0, 1, 3, 0);
        check.due("worth(0)", 120, house.worth(0));
        check.due("all(false)", 120, house.all(false));
        check.due("all(true), page 3 alone", 60, house.all(true));
        check.yes("grade(1, 2, 2) of what is no find", house.grade(1, 2, 2));
        check.due("all(true) all the same", 60, house.all(true));
        giveWords(house);
        check.due("all(true) as it is a find again, the fourth", 60 + 30, house.all(true));
    }

    /** Only page 2's grade makes version 1 worse, so that nothing is lost without it. */
    private static void renewedLosesNothing(Check check) {
        FoundFirst house = around(h -> h.page(0, 0, 0));
        giveWords(house);
        house.grade(2, 2, 3);
        check.due("lost(0, 1, 0)", 1, house.lost(0, 1, 0));
        check.due("lost(0, 1, 1)", 2, house.lost(0, 1, 1));
        check.due("lost(0, 1, 2)", 180 - 45, house.lost(0, 1, 2));
        house.renew(2, 0, 0);
        giveWords(house);
        check.due("lost(0, 1, 0)", 0, house.lost(0, 1, 0));
        check.none("lost(0, 1, 1)", house.lost(0, 1, 1));
        check.due("lost(0, 1, 2)", 0, house.lost(0, 1, 2));
    }

    private static void rulesOneAfterAnother(Check check) {
        check.promise("8 rule: it was so (2, 0), or there are 20; the later word counts, of no FINDS, too");
        for (int others : new int[] {1, 18, 19, 20}) {
            for (int hows = 0; hows < 27; hows++) {
                rulesOneAfterAnother(check, others, new int[] {hows / 9, hows / 3 % 3, hows % 3}, true);
                rulesOneAfterAnother(check, others, new int[] {hows / 9, hows / 3 % 3, hows % 3}, false);
            }
        }
    }

    /** Page 23 is told of for query 0, when it is a find of it or before; others have a rule already. */
    private static void rulesOneAfterAnother(Check check, int others, int[] hows, boolean isFind) {
        FoundFirst house = new FoundFirst();
        for (int p = 0; p < 24; p++) {
            house.page(p % 4, 0, 0);
        }
        house.word(0, 0, 0);
        house.word(1, 0, 0);
        house.query(1, false);
        house.rule(0, 0, 1);
        for (int p = 1; p < others; p++) {
            house.rule(0, p + 1, 1 + p % 2);
        }
        if (isFind) {
            house.word(23, 0, 0);
        }
        int was = 0;
        for (int how : hows) {
            boolean due = was == 0 ? how != 0 && others < 20 : how != was || how == 1;
            check.due("rule(0, 23, " + how + ") beside " + others, due ? 1 : 0, house.rule(0, 23, how) ? 1 : 0);
            was = due ? how : was;
            check.due("why(0, 23, 7)", isFind ? was : -1, house.why(0, 23, 7));
        }
        house.word(23, 0, 0);
        check.due("why(0, 23, 7) as a find", was, house.why(0, 23, 7));
        check.due("why(0, 23, 6) as a find", was == 1 ? 1 : 2, house.why(0, 23, 6));
        check.due("room for another", others + (was == 0 ? 0 : 1) < 20 ? 1 : 0, house.rule(0, 22, 1) ? 1 : 0);
        check.yes("page 0 pinned again", house.rule(0, 0, 1));
        check.due("page 23 goes ahead of it", was == 1 ? 0 : 2, house.why(0, 23, 6));
    }

    private static void whyIs(Check check, FoundFirst house, int page, int... values) {
        for (int what = 0; what < values.length; what++) {
            check.due("why(0, " + page + ", " + what + ")", values[what], house.why(0, page, what));
        }
        check.none("why(0, " + page + ", 9)", house.why(0, page, 9));
        check.none("why(0, " + page + ", -1)", house.why(0, page, -1));
    }

    /** Only place and standing change by rules; what is weighed stays as it is. */
    private static void nineValuesOfOnePage(Check check) {
        check.promise("12 why: what 0 .. 8 of one PAGE that is PINNED, SUNK, late by its KIND, or none");
        FoundFirst house = Given.pagesByAge(new int[] {3, 3, 3, 3, 0}, new int[] {0, 10, 45, 50, 100});
        Given.words(house, 2, 0, 1);
        Given.words(house, 2, 1, 1, 9, 1);
        house.query(3, false);
        house.renew(2, 45, 123);
        Given.words(house, 2, 0, 0, 1);
        Given.words(house, 2, 1, 1, 9, 0, 9);
        house.weight(0, 2);
        house.weight(1, 0);
        house.weight(4, 4);
        check.yes("grade(0, 2, 2)", house.grade(0, 2, 2));
        whyIs(check, house, 2, 1, 1, 9, 5, 3, 2 + 9 + 5 + 12, 0, 0, 2);
        house.weight(2, 0);
        house.weight(4, 0);
        whyIs(check, house, 2, 1, 1, 9, 5, 3, 2 + 5, 3, 3, 2);
        house.rule(0, 4, 2);
        whyIs(check, house, 2, 1, 1, 9, 5, 3, 7, 2, 3, 2);
        house.rule(0, 2, 2);
        whyIs(check, house, 2, 1, 1, 9, 5, 3, 7, 3, 2, 2);
        house.rule(0, 3, 1);
        house.rule(0, 2, 1);
        whyIs(check, house, 2, 1, 1, 9, 5, 3, 7, 1, 1, 2);
        house.rule(0, 3, 0);
        whyIs(check, house, 2, 1, 1, 9, 5, 3, 7, 0, 1, 2);
        house.rule(0, 2, 0);
        whyIs(check, house, 2, 1, 1, 9, 5, 3, 7, 2, 3, 2);
        house.rule(0, 0, 1);
        whyIs(check, house, 2, 1, 1, 9, 5, 3, 7, 2, 0, 2);
        house.query(1 << 20, false);
        house.rule(1, 2, 1);
        house.grade(1, 2, 3);
        for (int what = 0; what < 8; what++) {
            check.none("why(2, 2, " + what + ") of no find", house.why(2, 2, what));
        }
        check.due("why(2, 2, 8) of no find", 0, house.why(2, 2, 8));
        check.due("why(1, 2, 8)", 3, house.why(1, 2, 8));
        check.due("why(1, 2, 7)", 1, house.why(1, 2, 7));
        check.none("why(3, 2, 8): there is no such query", house.why(3, 2, 8));
        check.none("why(1, 5, 8): there is no such page", house.why(1, 5, 8));
    }
}
