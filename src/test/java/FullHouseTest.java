/** All rows at their limits: nothing reaches beyond them, and answers are the plain model's. */
final class FullHouseTest {
    private final FoundFirst house = new FoundFirst();
    private final PlainModel model = new PlainModel();
    private final Check check;

    private FullHouseTest(Check check) {
        this.check = check;
    }

    static void run(Check check) {
        check.promise("a full house");
        // Each part has a house of its own, since an object is for 512 calls.
        for (int q = 0; q < 12; q += 4) {
            filled(check).askOrders(q, q + 4);
        }
        filled(check).askTuning();
        filled(check).askLists();
        for (int q = 0; q < 12; q += 2) {
            filled(check).renewAndReturn(q);
        }
    }

    private static FullHouseTest filled(Check check) {
        FullHouseTest test = new FullHouseTest(check);
        test.fillPages();
        test.fillQueries();
        test.fillVersions();
        return test;
    }

    private void fillPages() {
        for (int p = 0; p < 24; p++) {
            check.due("page " + p, model.page(p % 4, p * 4, p * 40), house.page(p % 4, p * 4, p * 40));
            for (int i = 0; i < 4; i++) {
                int word = (p + i) % 3;
                check.due("word", model.word(p, i % 2, word), house.word(p, i % 2, word));
            }
        }
        for (int i = 2; i < 10; i++) {
            for (int field = 0; field < 2; field++) {
                check.due("word of the last page", model.word(23, field, 60 + i % 4), house.word(23, field, 60 + i % 4));
            }
        }
    }

    private void fillQueries() {
        for (int q = 0; q < 12; q++) {
            int bits = 1 + q % 7;
            check.due("query " + q, model.query(bits, false), house.query(bits, false));
            check.yes("grade", model.grade(q, 23 - q, 1 + q % 3) && house.grade(q, 23 - q, 1 + q % 3));
            check.yes("grade", model.grade(q, q * 2, 1 + q % 2) && house.grade(q, q * 2, 1 + q % 2));
        }
        for (int p = 0; p < 20; p++) {
            check.yes("rule " + p, model.rule(11, p + 4, 1 + p / 17) && house.rule(11, p + 4, 1 + p / 17));
        }
        check.no("a 21st rule", house.rule(11, 0, 1));
    }

    private void fillVersions() {
        for (int version = 0; version < 31; version++) {
            int mark = version % 5;
            int value = version * 7 % 21;
            check.yes("weight", model.weight(mark, value) && house.weight(mark, value));
            check.due("keep()", model.keep(), house.keep());
        }
    }

    private void askOrders(int from, int end) {
        for (int q = from; q < end; q++) {
            check.due("finds(" + q + ")", model.finds(q), house.finds(q));
            check.due("worth(" + q + ")", model.worth(q), house.worth(q));
            for (int k = 0; k <= 24; k++) {
                check.due("place(" + q + ", " + k + ")", model.place(q, k), house.place(q, k));
            }
            for (int what = 0; what < 9; what++) {
                check.due("why(" + q + ", 23, " + what + ")", model.why(q, 23, what), house.why(q, 23, what));
            }
        }
        check.due("all(false)", model.all(false), house.all(false));
    }

    private void askTuning() {
        check.due("tune(4, 0)", model.tune(4, 0), house.tune(4, 0));
        check.due("tune(2, 3)", model.tune(2, 3), house.tune(2, 3));
        check.yes("back(29)", model.back(29) && house.back(29));
        for (int i = 0; i < 4; i++) {
            check.due("step()", model.step(), house.step());
        }
        for (int mark = 0; mark < 5; mark++) {
            check.due("now(" + mark + ")", model.now(mark), house.now(mark));
        }
        for (int what = 0; what < 3; what++) {
            check.due("lost(0, 29, " + what + ")", model.lost(0, 29, what), house.lost(0, 29, what));
            check.due("lost(29, 8, " + what + ")", model.lost(29, 8, what), house.lost(29, 8, what));
        }
    }

    private void askLists() {
        for (int q = 0; q < 12; q++) {
            check.due("mix(" + q + ", 28, 29, 3)", model.mix(q, 28, 29, 3), house.mix(q, 28, 29, 3));
            for (int k = 0; k < 7; k++) {
                check.due("mixed(" + k + ", 0)", model.mixed(k, 0), house.mixed(k, 0));
                check.due("mixed(" + k + ", 1)", model.mixed(k, 1), house.mixed(k, 1));
            }
        }
        check.due("mix(11, 28, 29, 1)", model.mix(11, 28, 29, 1), house.mix(11, 28, 29, 1));
        for (int i = 0; i < 56; i++) {
            check.due("click(" + i % 5 + ")", model.click(i % 5), house.click(i % 5));
        }
        for (int what = 0; what < 4; what++) {
            check.due("trial(" + what + ")", model.trial(what), house.trial(what));
        }
    }

    private void renewAndReturn(int query) {
        check.yes("image(2)", model.image(2) && house.image(2));
        check.yes("renew(23, 0, 0)", model.renew(23, 0, 0) && house.renew(23, 0, 0));
        askOrders(query, query + 2);
        check.yes("again(2)", model.again(2) && house.again(2));
        askOrders(query, query + 2);
    }
}
