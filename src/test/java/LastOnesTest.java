/** Just inside the bounds: the last page, query, word, place and version of a house that has them all. */
final class LastOnesTest {
    private LastOnesTest() {
    }

    static void run(Check check) {
        numbersFromZeroOn(check);
        lastPage(check);
        lastQuery(check);
        lastPlace(check);
        lastVersion(check);
        leastAndGreatestNumbers(check);
        newPageIsWithoutAnything(check);
        renewedPageIsWithoutAnything(check);
        renewedPageKeepsItsKind(check);
    }

    /** 24 pages that query 11 finds, 12 queries, 30 versions. */
    private static FoundFirst full() {
        FoundFirst house = new FoundFirst();
        for (int p = 0; p < 24; p++) {
            house.page(p % 4, 0, 0);
            house.word(p, 0, 63);
        }
        for (int q = 0; q < 12; q++) {
            house.query(q == 11 ? Integer.MIN_VALUE : 1, q == 11);
        }
        for (int version = 0; version < 30; version++) {
            house.weight(4, version % 21);
            house.keep();
        }
        return house;
    }

    private static void numbersFromZeroOn(Check check) {
        check.promise("Terms 1: PAGES (at most 24, from 0 on), QUERIES (at most 12, from 0 on)");
        FoundFirst house = new FoundFirst();
        for (int p = 0; p < 24; p++) {
            check.none("word(" + p + ", 0, 0) before", house.word(p, 0, 0));
            check.no("renew(" + p + ", 0, 0) before", house.renew(p, 0, 0));
            check.none("page(4, 0, 0)", house.page(4, 0, 0));
            check.due("page", p, house.page(p % 4, 0, 0));
            check.due("word(" + p + ", 0, 0)", 1, house.word(p, 0, 0));
        }
        check.none("a 25th", house.page(0, 0, 0));
        check.none("a 25th once more", house.page(0, 0, 0));
        check.none("word(24, 0, 0)", house.word(24, 0, 0));
        for (int q = 0; q < 12; q++) {
            check.none("finds(" + q + ") before", house.finds(q));
            check.no("hold(" + q + ", true) before", house.hold(q, true));
            check.none("query(0, false)", house.query(0, false));
            check.due("query", q, house.query(1, false));
            check.due("finds(" + q + ")", 24, house.finds(q));
        }
        check.none("a 13th", house.query(1, false));
        check.none("a 13th once more", house.query(1, true));
        check.none("finds(12)", house.finds(12));
    }

    private static void lastPage(Check check) {
        check.promise("2 to 9: the last of 24 pages");
        FoundFirst house = full();
        check.due("word(23, 1, 63)", 1, house.word(23, 1, 63));
        check.due("word(23, 0, 0)", 2, house.word(23, 0, 0));
        check.yes("grade(11, 23, 3)", house.grade(11, 23, 3));
        check.due("why(11, 23, 8)", 3, house.why(11, 23, 8));
        check.yes("rule(11, 23, 1)", house.rule(11, 23, 1));
        check.due("place(11, 0)", 23, house.place(11, 0));
        check.due("worth(11)", 180, house.worth(11));
        check.yes("rule(11, 23, 2)", house.rule(11, 23, 2));
        check.due("place(11, 23)", 23, house.place(11, 23));
        check.yes("rule(11, 23, 0)", house.rule(11, 23, 0));
        check.yes("renew(23, 100, 1000)", house.renew(23, 100, 1000));
        check.due("finds(11)", 23, house.finds(11));
        check.due("finds(0)", 0, house.finds(0));
        check.due("why(11, 23, 8)", 0, house.why(11, 23, 8));
        check.yes("renew(0, 0, 0)", house.renew(0, 0, 0));
        check.due("finds(11)", 22, house.finds(11));
    }

    private static void lastQuery(Check check) {
        check.promise("5 to 14: the last of 12 queries");
        FoundFirst house = full();
        check.yes("grade(11, 0, 3)", house.grade(11, 0, 3));
        check.due("all(false)", 180, house.all(false));
        check.yes("hold(11, true)", house.hold(11, true));
        check.due("all(true)", 180, house.all(true));
        check.due("all(false)", 0, house.all(false));
        check.no("hold(11, true) again", house.hold(11, true));
        check.yes("hold(0, true)", house.hold(0, true));
        check.yes("hold(11, false)", house.hold(11, false));
        check.due("all(false)", 180, house.all(false));
        check.due("worth(11)", 180, house.worth(11));
        check.due("worth(0)", 0, house.worth(0));
        house.weight(4, 1);
        check.yes("renew(23, 100, 1000)", house.renew(23, 100, 1000));
        house.word(23, 0, 63);
        house.weight(3, 0);
        check.due("worth(11), page 23 being first", 90, house.worth(11));
        check.due("step() by query 11", 180, house.step());
        Given.weightsAre(check, house, 1, 1, 1, 1, 1);
        check.due("tune(3, 4) by query 11", 180, house.tune(3, 4));
        Given.weightsAre(check, house, 1, 1, 1, 0, 0);
    }

    private static void lastPlace(Check check) {
        check.promise("11 place: the k-th, from 0 on");
        FoundFirst house = full();
        for (int k = 0; k < 24; k++) {
            check.due("place(11, " + k + ")", k, house.place(11, k));
            check.due("why(11, " + k + ", 6)", k, house.why(11, k, 6));
            check.due("why(11, " + k + ", 7)", k < 8 ? 0 : 3, house.why(11, k, 7));
        }
        check.none("place(11, 24)", house.place(11, 24));
        check.none("place(11, -1)", house.place(11, -1));
        check.none("place(0, 0)", house.place(0, 0));
    }

    private static void lastVersion(Check check) {
        check.promise("17 to 21: the last of 30 versions");
        FoundFirst house = full();
        check.yes("back(0)", house.back(0));
        check.due("now(4)", 0, house.now(4));
        check.yes("back(29)", house.back(29));
        check.due("now(4)", 8, house.now(4));
        check.due("lost(29, 0, 0)", 0, house.lost(29, 0, 0));
        check.none("lost(0, 29, 1)", house.lost(0, 29, 1));
        check.due("lost(29, 29, 2)", 0, house.lost(29, 29, 2));
        check.due("mix(11, 29, 0, 0)", 6, house.mix(11, 29, 0, 0));
        check.due("mixed(5, 0)", 5, house.mixed(5, 0));
        check.due("mixed(5, 1)", 0, house.mixed(5, 1));
        check.due("click(5)", 1, house.click(5));
    }

    private static void leastAndGreatestNumbers(Check check) {
        check.promise("2 to 9: the least and the greatest that are right");
        for (int kind = 0; kind < 4; kind += 3) {
            for (int age = 0; age <= 100; age += 100) {
                for (int visits = 0; visits <= 1000; visits += 1000) {
                    FoundFirst house = new FoundFirst();
                    check.due("page", 0, house.page(kind, age, visits));
                    check.due("word", 1, house.word(0, 0, 0));
                    check.due("word", 1, house.word(0, 1, 63));
                    house.query(1, false);
                    check.due("fresh", age == 0 ? 10 : 0, house.why(0, 0, 3));
                    check.due("seen", visits == 0 ? 0 : 4, house.why(0, 0, 4));
                    check.yes("renew", house.renew(0, 100 - age, 1000 - visits));
                    house.word(0, 0, 0);
                    check.due("fresh", age == 0 ? 0 : 10, house.why(0, 0, 3));
                    check.due("seen", visits == 0 ? 4 : 0, house.why(0, 0, 4));
                }
            }
        }
    }

    private static void newPageIsWithoutAnything(Check check) {
        check.promise("2 page: a PAGE without words");
        FoundFirst house = new FoundFirst();
        house.query(1, false);
        house.page(0, 0, 0);
        check.due("finds(0)", 0, house.finds(0));
        check.due("why(0, 0, 8)", 0, house.why(0, 0, 8));
        check.none("why(0, 0, 0)", house.why(0, 0, 0));
        check.no("rule(0, 0, 0), there being none", house.rule(0, 0, 0));
        check.due("its first title word", 1, house.word(0, 0, 1));
        check.due("its first body word", 1, house.word(0, 1, 1));
    }

    private static void renewedPageIsWithoutAnything(Check check) {
        check.promise("4 renew: words are no more, nor what was told of it (GRADES, PINNED, SUNK)");
        FoundFirst house = full();
        for (int q = 0; q < 12; q++) {
            for (int p = 22; p < 24; p++) {
                house.grade(q, p, 1 + q % 3);
            }
            if (q % 2 == 0) {
                house.rule(q, 22, 1 + q / 2 % 2);
            } else {
                house.rule(q, 23, 1 + q / 2 % 2);
            }
        }
        check.yes("renew(23, 50, 50)", house.renew(23, 50, 50));
        check.due("its title", 1, house.word(23, 0, 0));
        check.due("its body", 1, house.word(23, 1, 63));
        check.due("another one's title", 2, house.word(22, 0, 0));
        for (int q = 0; q < 12; q++) {
            check.due("its grade", 0, house.why(q, 23, 8));
            check.due("another one's grade", 1 + q % 3, house.why(q, 22, 8));
            check.due("its standing, its score being the greatest", 0, house.why(q, 23, 7));
            int other = q % 2 == 0 ? 1 + q / 2 % 2 : q == 11 ? 3 : 0;
            check.due("another one's standing", other, house.why(q, 22, 7));
            check.no("there is nothing to take back", house.rule(q, 23, 0));
        }
        for (int i = 0; i < 14; i++) {
            check.yes("room for rule " + i, house.rule(11, i, 1));
        }
        check.no("room for no more", house.rule(11, 14, 1));
        check.yes("renew(22, 0, 0)", house.renew(22, 0, 0));
        for (int q = 0; q < 12; q += 2) {
            check.no("there is nothing to take back", house.rule(q, 22, 0));
            check.yes("room by that", house.rule(q, 23, 2));
        }
        check.no("room for no more", house.rule(11, 14, 1));
    }

    private static void renewedPageKeepsItsKind(Check check) {
        check.promise("4 renew: a PAGE's AGE and VISITS are these");
        FoundFirst house = Given.pagesByAge(new int[] {3, 3, 3, 1}, new int[] {50, 50, 50, 100});
        check.yes("renew(1, 0, 1000)", house.renew(1, 0, 1000));
        check.due("finds(0)", 3, house.finds(0));
        house.word(1, 0, 0);
        Given.orderIs(check, house, 0, 1, 0, 3, 2);
        check.due("the third of its kind", 3, house.why(0, 2, 7));
        check.due("fresh", 10, house.why(0, 1, 3));
        check.due("seen", 4, house.why(0, 1, 4));
    }
}
