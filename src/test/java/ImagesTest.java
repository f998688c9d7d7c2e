/** Promises 26 and 27: image, again. */
final class ImagesTest {
    private ImagesTest() {
    }

    static void run(Check check) {
        image(check);
        again(check);
        imagesHoldAllThatIsTold(check);
        imagesHoldRowsWrittenOver(check);
        imagesHoldTheTrial(check);
        imagesStay(check);
    }

    private static void image(Check check) {
        check.promise("26 image");
        FoundFirst house = new FoundFirst();
        for (int wrong : Given.WRONG) {
            check.no("image(" + wrong + ")", house.image(wrong));
        }
        check.no("image(3)", house.image(3));
        for (int k = 0; k < 3; k++) {
            check.no("again(" + k + ") before", house.again(k));
            check.yes("image(" + k + ")", house.image(k));
            check.yes("again(" + k + ")", house.again(k));
        }
        house.weight(0, 5);
        check.yes("image(1) anew", house.image(1));
        house.weight(0, 6);
        house.again(1);
        check.due("now(0) of the newer image", 5, house.now(0));
        house.again(0);
        check.due("now(0) of the older image", 1, house.now(0));
    }

    private static void again(Check check) {
        check.promise("27 again");
        FoundFirst house = new FoundFirst();
        house.image(1);
        for (int wrong : Given.WRONG) {
            check.no("again(" + wrong + ")", house.again(wrong));
        }
        check.no("again(3)", house.again(3));
        check.no("again(0)", house.again(0));
        check.no("again(2)", house.again(2));
        check.yes("again(1)", house.again(1));
        house.page(0, 0, 0);
        house.query(1, false);
        house.keep();
        check.yes("again(1)", house.again(1));
        check.due("page(0, 0, 0) anew", 0, house.page(0, 0, 0));
        check.due("query(1, false) anew", 0, house.query(1, false));
        check.due("keep() anew", 0, house.keep());
        check.due("word(0, 0, 0)", 1, house.word(0, 0, 0));
        check.yes("again(1) once more", house.again(1));
        house.page(0, 0, 0);
        house.query(1, false);
        check.due("a new page has no words", 0, house.finds(0));
    }

    private static FoundFirst full() {
        FoundFirst house = new FoundFirst();
        for (int p = 0; p < 4; p++) {
            house.page(p, 10 * p, 10 * p);
            Given.words(house, p, 0, 0, 2);
            Given.words(house, p, 1, 2, 3, 0, 3);
        }
        house.query(1, false);
        house.query(5, false);
        house.hold(1, true);
        house.rule(0, 3, 1);
        house.rule(0, 2, 1);
        house.rule(0, 0, 2);
        house.grade(0, 2, 3);
        house.grade(1, 1, 1);
        house.keep();
        house.weight(3, 0);
        house.keep();
        house.mix(1, 0, 1, 1);
        house.click(0);
        house.click(1);
        house.click(1);
        return house;
    }

    private static void changeAll(FoundFirst house) {
        house.renew(1, 99, 999);
        house.word(2, 1, 0);
        house.word(2, 0, 5);
        house.page(0, 0, 0);
        house.query(4, true);
        house.hold(1, false);
        house.hold(0, true);
        house.rule(0, 3, 1);
        house.rule(0, 0, 1);
        house.rule(1, 2, 2);
        house.grade(0, 2, 1);
        house.grade(0, 3, 2);
        house.weight(0, 7);
        house.weight(3, 5);
        house.keep();
        house.mix(0, 2, 1, 6);
        house.click(0);
    }

    private static void isFull(Check check, FoundFirst house) {
        Given.orderIs(check, house, 0, 3, 2, 1, 0);
        int[] marksOfPageOne = {2, 2, 7, 9, 2};
        for (int mark = 0; mark < 5; mark++) {
            check.due("why(1, 1, " + mark + ")", marksOfPageOne[mark], house.why(1, 1, mark));
        }
        check.due("why(1, 2, 2)", 7, house.why(1, 2, 2));
        check.due("why(0, 0, 7)", 2, house.why(0, 0, 7));
        check.due("why(1, 2, 7)", 0, house.why(1, 2, 7));
        check.due("why(0, 2, 8)", 3, house.why(0, 2, 8));
        check.due("why(0, 3, 8)", 0, house.why(0, 3, 8));
        check.due("all(false)", 90, house.all(false));
        check.due("all(true)", house.worth(1), house.all(true));
        check.none("worth(2)", house.worth(2));
        Given.weightsAre(check, house, 1, 1, 1, 0, 1);
        check.none("lost(0, 2, 0)", house.lost(0, 2, 0));
        check.due("mixed(0, 0)", 1, house.mixed(0, 0));
        check.due("mixed(0, 1)", 0, house.mixed(0, 1));
        check.due("mixed(1, 0)", 2, house.mixed(1, 0));
        check.due("trial(0)", 1, house.trial(0));
        check.due("trial(1)", 2, house.trial(1));
    }

    private static void imagesHoldAllThatIsTold(Check check) {
        FoundFirst house = full();
        isFull(check, house);
        house.image(2);
        changeAll(house);
        check.yes("again(2)", house.again(2));
        isFull(check, house);
        changeAll(house);
        house.again(2);
        isFull(check, house);
        house.mix(0, 0, 1, 0);
        check.due("clicks go on by the image's versions", 2, house.trial(1));
        check.due("word(2, 1, 9)", 5, house.word(2, 1, 9));
        check.due("word(2, 0, 9)", 3, house.word(2, 0, 9));
        check.due("page", 4, house.page(0, 0, 0));
        check.due("query", 2, house.query(1, false));
        check.due("keep()", 2, house.keep());
        house.back(0);
        Given.weightsAre(check, house, 1, 1, 1, 1, 1);
    }

    private static void imagesHoldRowsWrittenOver(Check check) {
        FoundFirst house = new FoundFirst();
        house.image(0);
        house.page(0, 0, 0);
        Given.words(house, 0, 1, 0, 9, 9, 1);
        house.query(3, false);
        house.weight(1, 7);
        house.keep();
        house.image(1);
        house.again(0);
        house.page(1, 50, 50);
        Given.words(house, 0, 1, 1, 0, 9, 9);
        house.query(8, false);
        house.keep();
        house.again(1);
        check.due("finds(0) of the image's query", 1, house.finds(0));
        check.due("nearness by the image's row", 6, house.why(0, 0, 2));
        check.due("fresh of the image's page", 10, house.why(0, 0, 3));
        house.weight(1, 9);
        house.back(0);
        check.due("now(1) by the image's version", 7, house.now(1));
    }

    private static void imagesHoldTheTrial(Check check) {
        FoundFirst house = Given.freshAgainstSeen();
        house.query(2, false);
        house.keep();
        house.keep();
        house.mix(0, 0, 1, 1);
        house.click(0);
        house.image(0);
        house.mix(1, 0, 1, 1);
        house.again(0);
        check.due("the image's list", 0, house.mixed(0, 0));
        check.due("the image's list, to its end", 1, house.mixed(1, 0));
        int[][] others = {{0, 0}, {1, 1}};
        for (int[] versions : others) {
            house.mix(0, versions[0], versions[1], 1);
            house.again(0);
            house.mix(0, 0, 1, 1);
            check.due("clicks go on by the image's versions", 1, house.trial(0));
        }
    }

    private static void imagesStay(Check check) {
        FoundFirst house = new FoundFirst();
        for (int k = 0; k < 3; k++) {
            house.weight(0, 10 + k);
            house.image(k);
        }
        for (int k = 0; k < 3; k++) {
            check.yes("again(" + k + ")", house.again(k));
            check.due("now(0) of image " + k, 10 + k, house.now(0));
            house.weight(0, 1);
        }
        house.again(0);
        house.image(1);
        house.again(2);
        check.due("image 2 stays", 12, house.now(0));
        house.again(1);
        check.due("image 1 is image 0", 10, house.now(0));
    }
}
