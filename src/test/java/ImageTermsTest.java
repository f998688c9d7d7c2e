import java.util.function.Consumer;

/** Promises 26 and 27 sentence by sentence: everything that can be asked is as the image has it. */
final class ImageTermsTest {
    private ImageTermsTest() {
    }

    static void run(Check check) {
        House[] houses = {House.fresh(), House.ordinary(), House.withAllPages(), House.withAllWords(),
            House.withAllQueries(), House.withAllRules(), House.withAllVersions(), House.withAllClicks(),
            House.withAnEmptyList()};
        for (House like : houses) {
            allThatIsToldAsItIsNow(check, like);
            imageTakenTwice(check, like);
            againTwiceFromOneImage(check, like);
            imageOfAnImage(check, like);
            imageOverAnotherHouse(check, like);
        }
        otherImagesStay(check);
        imagesAreNoPartOfAnImage(check);
        imageOfANewObject(check);
        newObjectAfterAFullOne(check);
        eachNumberOfAnImage(check);
    }

    private static void changeMuch(FoundFirst house) {
        house.renew(1, 20, 999);
        house.page(2, 33, 3);
        for (int page = 0; page < 3; page++) {
            house.word(page, 0, 9);
            house.word(page, 1, 31);
        }
        house.query(1 << 31, false);
        house.query(2, false);
        house.hold(0, true);
        house.hold(1, false);
        house.rule(0, 0, 0);
        house.rule(0, 2, 1);
        house.rule(1, 2, 2);
        house.grade(0, 0, 3);
        house.grade(1, 2, 1);
        house.weight(0, 13);
        house.weight(3, 17);
        house.keep();
        house.mix(0, 1, 0, 2);
        house.click(0);
    }

    private static void alike(Check check, String what, House like, Consumer<FoundFirst> one, Consumer<FoundFirst> other) {
        check.yes(what + " of " + like.name(),
                Looks.at(() -> like.after(one)).equals(Looks.at(() -> like.after(other))));
    }

    private static void allThatIsToldAsItIsNow(Check check, House like) {
        check.promise("26 image: all that is told, as it is now; 27 again: all that is as image k has it");
        check.no("the changes show on " + like.name(),
                Looks.at(like.made()).equals(Looks.at(() -> like.after(ImageTermsTest::changeMuch))));
        for (int k = 0; k < 3; k++) {
            int number = k;
            alike(check, "image " + k, like, house -> house.image(number), house -> {
                house.image(number);
                changeMuch(house);
                house.again(number);
            });
            alike(check, "image " + k + " and at once again", like, house -> house.image(number), house -> {
                house.image(number);
                house.again(number);
            });
        }
    }

    private static void imageTakenTwice(Check check, House like) {
        check.promise("26 image: taken twice, the later one counts");
        alike(check, "the later image", like, house -> {
            changeMuch(house);
            house.image(1);
        }, house -> {
            house.image(1);
            changeMuch(house);
            house.image(1);
            changeMuch(house);
            house.again(1);
        });
        alike(check, "the same image twice", like, house -> house.image(1), house -> {
            house.image(1);
            house.image(1);
        });
    }

    private static void againTwiceFromOneImage(Check check, House like) {
        check.promise("27 again: twice from one image");
        alike(check, "again twice", like, house -> house.image(1), house -> {
            house.image(1);
            for (int time = 0; time < 2; time++) {
                changeMuch(house);
                house.again(1);
            }
        });
        alike(check, "changes after again", like, house -> {
            house.image(1);
            changeMuch(house);
        }, house -> {
            house.image(1);
            changeMuch(house);
            house.again(1);
            changeMuch(house);
        });
    }

    private static void imageOfAnImage(Check check, House like) {
        check.promise("26 image: of what came back by again");
        alike(check, "an image of it", like, house -> {
            house.image(0);
            house.image(1);
            house.image(2);
        }, house -> {
            house.image(0);
            changeMuch(house);
            house.again(0);
            house.image(1);
            changeMuch(house);
            house.again(1);
            house.image(2);
            changeMuch(house);
            house.again(2);
        });
    }

    /** The image comes back over a house that was filled from nothing with other things. */
    private static void imageOverAnotherHouse(Check check, House like) {
        check.promise("27 again: nothing is left of what was there");
        alike(check, "an image over another house", like, house -> {
            house.image(1);
            house.image(0);
            house.image(2);
        }, house -> {
            house.image(1);
            // On all but a new object image 2 is of a house without pages.
            house.again(2);
            fillOtherwise(house);
            house.again(1);
            house.image(0);
            house.image(2);
        });
    }

    private static void fillOtherwise(FoundFirst house) {
        for (int p = 0; p < 9; p++) {
            house.page(3 - p % 3, 11 * p, 111 * p);
            Given.words(house, p, 0, 2, 1);
            Given.words(house, p, 1, 1, 1, 1);
        }
        for (int q = 0; q < 4; q++) {
            house.query(2 + q, false);
            house.hold(q, q != 1);
            house.grade(q, 8 - q, 2);
            house.rule(q, q, 1);
            house.weight(q, 20 - q);
            house.keep();
        }
        house.mix(0, 3, 2, 0);
        house.click(5);
    }

    private static void otherImagesStay(Check check) {
        check.promise("27 again: other images stay");
        FoundFirst house = new FoundFirst();
        for (int k = 0; k < 3; k++) {
            house.page(k, 0, 0);
            house.weight(k, 10 + k);
            check.yes("image(" + k + ")", house.image(k));
        }
        int[] row = {0, 2, 1, 1, 0, 0, 2, 2, 1, 0};
        for (int k : row) {
            check.yes("again(" + k + ")", house.again(k));
            Given.weightsAre(check, house, 10, k > 0 ? 11 : 1, k > 1 ? 12 : 1, 1, 1);
            check.due("a page more", k + 1, house.page(0, 0, 0));
            house.weight(0, 1);
            house.weight(1, 2);
            house.weight(2, 3);
        }
        house.again(2);
        check.yes("image(0) anew", house.image(0));
        check.yes("again(1)", house.again(1));
        check.due("image 1 is as it was", 1, house.now(2));
        check.yes("again(0)", house.again(0));
        check.due("image 0 is as image 2", 12, house.now(2));
    }

    private static void imagesAreNoPartOfAnImage(Check check) {
        FoundFirst house = new FoundFirst();
        house.image(0);
        house.weight(0, 5);
        house.image(1);
        check.yes("again(0), taken when there was no other", house.again(0));
        check.no("image 2 is none still", house.again(2));
        check.yes("image 1 is there", house.again(1));
        check.due("as it was", 5, house.now(0));
        house.weight(0, 6);
        house.image(0);
        house.again(1);
        house.again(0);
        check.due("image 0 is the later one", 6, house.now(0));
    }

    private static void imageOfANewObject(Check check) {
        check.promise("26 image: of a new object");
        FoundFirst house = new FoundFirst();
        for (int k = 0; k < 3; k++) {
            check.no("again(" + k + ") of none", house.again(k));
        }
        check.yes("image(1)", house.image(1));
        check.no("again(0) of none", house.again(0));
        check.no("again(2) of none", house.again(2));
        check.yes("again(1)", house.again(1));
        Given.weightsAre(check, house, 1, 1, 1, 1, 1);
        check.due("page", 0, house.page(0, 0, 0));
        check.due("query", 0, house.query(1, false));
        check.due("keep", 0, house.keep());
    }

    /** What was full before is as empty as on a new object, and takes as much again. */
    private static void newObjectAfterAFullOne(Check check) {
        FoundFirst house = new FoundFirst();
        house.image(0);
        for (int round = 0; round < 2; round++) {
            for (int p = 0; p < 24; p++) {
                check.due("page", p, house.page(p % 4, 0, 0));
            }
            for (int q = 0; q < 12; q++) {
                check.due("query", q, house.query(1, false));
            }
            for (int i = 1; i <= 10; i++) {
                check.due("word", i, house.word(23, 0, 0));
            }
            for (int i = 0; i < 20; i++) {
                check.yes("rule", house.rule(11, i, 1 + i % 2));
            }
            for (int version = 0; version < 30; version++) {
                check.due("keep", version, house.keep());
            }
            check.due("finds(11)", 1, house.finds(11));
            check.due("mix", 1, house.mix(11, 0, 29, 1));
            for (int i = 1; i <= 55; i++) {
                check.due("click", i, house.click(0));
            }
            check.none("a 56th", house.click(0));
            check.yes("again(0)", house.again(0));
            check.none("finds(0)", house.finds(0));
            check.none("mixed(0, 0)", house.mixed(0, 0));
            check.due("trial(0)", 0, house.trial(0));
            check.no("back(0)", house.back(0));
        }
    }

    private static void eachNumberOfAnImage(Check check) {
        check.promise("26 image: (0 .. 2), false for another k");
        for (int k = -4; k <= 6; k++) {
            FoundFirst house = new FoundFirst();
            boolean is = k >= 0 && k <= 2;
            check.no("again(" + k + ") before", house.again(k));
            check.due("image(" + k + ")", is ? 1 : 0, house.image(k) ? 1 : 0);
            check.due("again(" + k + ")", is ? 1 : 0, house.again(k) ? 1 : 0);
            for (int other = 0; other < 3; other++) {
                check.due("again(" + other + ")", other == k ? 1 : 0, house.again(other) ? 1 : 0);
            }
        }
    }
}
