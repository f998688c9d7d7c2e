/** Promises 15 to 20: tune, step, keep, back, lost, now. */
final class TuningTest {
    private TuningTest() {
    }

    static void run(Check check) {
        tune(check);
        tuneTakesTheLeast(check);
        tuneLooksAwayFromHeldOnes(check);
        step(check);
        stepOfSeveral(check);
        stepGoesDownFirst(check);
        stepStaysAtMostTwenty(check);
        stepStaysAtLeastZero(check);
        keep(check);
        back(check);
        lost(check);
        lostOfHeldOnes(check);
        now(check);
    }

    private static void tune(Check check) {
        check.promise("15 tune");
        FoundFirst house = Given.freshAgainstSeen();
        for (int wrong : Given.WRONG) {
            check.none("tune(" + wrong + ", 0)", house.tune(wrong, 0));
            check.none("tune(0, " + wrong + ")", house.tune(0, wrong));
        }
        check.none("tune(5, 0)", house.tune(5, 0));
        check.none("tune(0, 5)", house.tune(0, 5));
        for (int mark = 0; mark < 5; mark++) {
            check.none("tune of one", house.tune(mark, mark));
        }
        Given.weightsAre(check, house, 1, 1, 1, 1, 1);
        check.due("tune(3, 4)", 180, house.tune(3, 4));
        Given.weightsAre(check, house, 1, 1, 1, 0, 1);
        house.weight(3, 2);
        check.due("tune(4, 0): 6 times 4 is above 2 times 10", 180, house.tune(4, 0));
        Given.weightsAre(check, house, 0, 1, 1, 2, 6);
        house.weight(3, 7);
        check.due("tune(0, 4): 18 * 4 is above 7 * 10", 180, house.tune(0, 4));
        Given.weightsAre(check, house, 0, 1, 1, 7, 18);
        house.weight(3, 8);
        check.due("tune(1, 4): 20 * 4 only ties with 8 * 10", 90, house.tune(1, 4));
        Given.weightsAre(check, house, 0, 0, 1, 8, 0);
        house.weight(3, 20);
        check.due("tune(4, 1): nothing is enough", 90, house.tune(4, 1));
        Given.weightsAre(check, house, 0, 0, 1, 20, 0);
    }

    private static void tuneTakesTheLeast(Check check) {
        FoundFirst empty = new FoundFirst();
        check.due("tune(1, 2) of nothing", 0, empty.tune(1, 2));
        Given.weightsAre(check, empty, 1, 0, 0, 1, 1);
        FoundFirst house = Given.freshAgainstSeen();
        check.due("tune(4, 3)", 180, house.tune(4, 3));
        Given.weightsAre(check, house, 1, 1, 1, 0, 1);
        house.grade(0, 0, 3);
        house.grade(0, 1, 0);
        house.weight(4, 1);
        house.weight(3, 20);
        check.due("tune(3, 4)", 180, house.tune(3, 4));
        Given.weightsAre(check, house, 1, 1, 1, 0, 0);
    }

    private static void tuneLooksAwayFromHeldOnes(Check check) {
        FoundFirst house = Given.freshAgainstSeen();
        house.query(1, false);
        house.grade(1, 0, 3);
        house.grade(0, 1, 1);
        check.due("tune(3, 4) by both", 210, house.tune(3, 4));
        check.due("now(4)", 0, house.now(4));
        house.hold(1, true);
        check.due("tune(3, 4) by one", 60, house.tune(3, 4));
        check.due("now(4)", 1, house.now(4));
    }

    private static void step(Check check) {
        check.promise("16 step");
        FoundFirst house = Given.freshAgainstSeen();
        check.due("step()", 180, house.step());
        Given.weightsAre(check, house, 1, 1, 1, 0, 1);
        check.none("step() when nothing is more", house.step());
        Given.weightsAre(check, house, 1, 1, 1, 0, 1);
        house.weight(3, 2);
        house.weight(4, 5);
        check.due("step(), 2 * 10 being a tie with 5 * 4", 180, house.step());
        Given.weightsAre(check, house, 1, 1, 1, 1, 5);
        house.hold(0, true);
        house.weight(3, 1);
        house.weight(4, 1);
        check.none("step() with all held out", house.step());
    }

    private static void stepOfSeveral(Check check) {
        FoundFirst house = new FoundFirst();
        house.page(0, 100, 0);
        house.page(0, 100, 0);
        Given.words(house, 0, 0, 0);
        Given.words(house, 1, 0, 1);
        Given.words(house, 1, 1, 0);
        house.query(1, false);
        house.grade(0, 1, 1);
        house.weight(0, 10);
        house.weight(1, 1);
        house.weight(2, 1);
        check.due("step(): 1 + 9 ties with 10; one less title is ahead of one more body", 60, house.step());
        Given.weightsAre(check, house, 9, 1, 1, 1, 1);
        FoundFirst other = new FoundFirst();
        other.page(0, 0, 10);
        other.page(0, 0, 0);
        Given.words(other, 0, 0, 0, 1);
        Given.words(other, 0, 1, 2);
        Given.words(other, 1, 0, 1);
        Given.words(other, 1, 1, 0, 2, 1);
        other.query(3, false);
        other.grade(0, 1, 3);
        other.weight(0, 10);
        other.weight(2, 0);
        other.weight(1, 4);
        check.due("by now", 90, other.worth(0));
        check.due("step(): one more near is the one that is enough", 180, other.step());
        Given.weightsAre(check, other, 10, 4, 1, 1, 1);
    }

    private static void stepGoesDownFirst(Check check) {
        FoundFirst house = new FoundFirst();
        for (int p = 0; p < 4; p++) {
            house.page(p, 100, 0);
        }
        house.word(0, 0, 0);
        house.word(1, 1, 0);
        house.word(2, 1, 1);
        house.word(3, 0, 1);
        house.query(1, false);
        house.query(2, false);
        house.grade(0, 1, 1);
        house.grade(1, 3, 1);
        house.weight(0, 10);
        check.due("by now", 60, house.all(false));
        check.due("step(): 9 and 11 are alike", 90, house.step());
        Given.weightsAre(check, house, 9, 1, 1, 1, 1);
        house.weight(0, 10);
        house.grade(1, 3, 2);
        check.due("step(): 11 is more", 30 + 120, house.step());
        Given.weightsAre(check, house, 11, 1, 1, 1, 1);
    }

    private static void stepStaysAtMostTwenty(Check check) {
        FoundFirst house = new FoundFirst();
        house.page(0, 100, 1);
        house.page(0, 100, 0);
        house.page(0, 100, 1);
        house.page(0, 90, 0);
        house.word(0, 1, 0);
        house.word(1, 0, 0);
        house.word(2, 1, 1);
        house.word(3, 1, 1);
        house.query(1, false);
        house.query(2, false);
        house.grade(0, 1, 1);
        house.grade(1, 2, 3);
        house.weight(1, 0);
        house.weight(2, 0);
        int[] tied = {0, 3, 4};
        for (int mark : tied) {
            house.weight(mark, 20);
        }
        check.none("step() beyond 20", house.step());
        Given.weightsAre(check, house, 20, 0, 0, 20, 20);
        for (int mark : tied) {
            house.weight(mark, 19);
        }
        check.due("step() up to 20", 60 + 180, house.step());
        Given.weightsAre(check, house, 20, 0, 0, 19, 19);
    }

    private static void stepStaysAtLeastZero(Check check) {
        FoundFirst house = new FoundFirst();
        house.page(0, 100, 0);
        house.page(0, 100, 0);
        house.word(0, 0, 0);
        house.word(0, 1, 0);
        house.word(1, 1, 0);
        house.query(1, false);
        house.grade(0, 1, 3);
        for (int mark = 0; mark < 5; mark++) {
            house.weight(mark, 0);
        }
        check.none("step() below 0", house.step());
        Given.weightsAre(check, house, 0, 0, 0, 0, 0);
        house.grade(0, 1, 0);
        house.renew(0, 100, 0);
        house.word(0, 1, 0);
        house.word(1, 0, 0);
        house.grade(0, 0, 3);
        house.weight(0, 1);
        check.due("step() down to 0", 180, house.step());
        Given.weightsAre(check, house, 0, 0, 0, 0, 0);
    }

    private static void keep(Check check) {
        check.promise("17 keep");
        FoundFirst house = new FoundFirst();
        for (int version = 0; version < 30; version++) {
            house.weight(4, version % 21);
            check.due("keep()", version, house.keep());
        }
        check.none("keep() of a 31st", house.keep());
        house.weight(4, 20);
        check.none("keep() of a 31st again", house.keep());
        house.back(29);
        check.due("version 29", 8, house.now(4));
        house.back(0);
        check.due("version 0", 0, house.now(4));
    }

    private static void back(Check check) {
        check.promise("18 back");
        FoundFirst house = new FoundFirst();
        check.no("back(0)", house.back(0));
        house.keep();
        for (int mark = 0; mark < 5; mark++) {
            house.weight(mark, 2 + mark);
        }
        house.keep();
        house.weight(2, 20);
        for (int wrong : Given.WRONG) {
            check.no("back(" + wrong + ")", house.back(wrong));
        }
        check.no("back(2)", house.back(2));
        Given.weightsAre(check, house, 2, 3, 20, 5, 6);
        check.yes("back(0)", house.back(0));
        Given.weightsAre(check, house, 1, 1, 1, 1, 1);
        check.yes("back(1)", house.back(1));
        Given.weightsAre(check, house, 2, 3, 4, 5, 6);
        house.weight(0, 9);
        check.yes("back(1) again, not changed by a weight", house.back(1));
        Given.weightsAre(check, house, 2, 3, 4, 5, 6);
    }

    private static void lost(Check check) {
        check.promise("19 lost");
        FoundFirst house = Given.freshAgainstSeen();
        for (int q = 1; q <= 3; q++) {
            house.query(1, false);
        }
        house.grade(0, 1, 1);
        house.grade(1, 0, 3);
        house.grade(2, 1, 3);
        house.grade(3, 1, 3);
        house.weight(3, 0);
        house.keep();
        house.weight(3, 1);
        house.keep();
        check.due("lost(0, 1, 0)", 3, house.lost(0, 1, 0));
        check.due("lost(0, 1, 1)", 2, house.lost(0, 1, 1));
        check.due("lost(0, 1, 2)", 90, house.lost(0, 1, 2));
        check.due("lost(1, 0, 0)", 1, house.lost(1, 0, 0));
        check.due("lost(1, 0, 1)", 1, house.lost(1, 0, 1));
        check.due("lost(1, 0, 2)", 90, house.lost(1, 0, 2));
        check.due("lost(0, 0, 0)", 0, house.lost(0, 0, 0));
        check.none("lost(0, 0, 1)", house.lost(0, 0, 1));
        check.due("lost(0, 0, 2)", 0, house.lost(0, 0, 2));
        Given.weightsAre(check, house, 1, 1, 1, 1, 1);
        for (int wrong : Given.WRONG) {
            check.none("lost(" + wrong + ", 0, 0)", house.lost(wrong, 0, 0));
            check.none("lost(0, " + wrong + ", 0)", house.lost(0, wrong, 0));
            check.none("lost(0, 1, " + wrong + ")", house.lost(0, 1, wrong));
        }
        check.none("lost(2, 0, 0)", house.lost(2, 0, 0));
        check.none("lost(0, 2, 0)", house.lost(0, 2, 0));
        check.none("lost(0, 1, 3)", house.lost(0, 1, 3));
    }

    private static void lostOfHeldOnes(Check check) {
        FoundFirst house = Given.freshAgainstSeen();
        house.keep();
        house.weight(3, 0);
        house.keep();
        house.hold(0, true);
        check.due("lost(1, 0, 0) of one held out", 1, house.lost(1, 0, 0));
        check.due("lost(1, 0, 1) of one held out", 0, house.lost(1, 0, 1));
        house.rule(0, 1, 1);
        check.due("lost(1, 0, 0) by rules as they are", 0, house.lost(1, 0, 0));
    }

    private static void now(Check check) {
        check.promise("20 now");
        FoundFirst house = new FoundFirst();
        for (int mark = 0; mark < 5; mark++) {
            check.due("now(" + mark + ") at first", 1, house.now(mark));
            house.weight(mark, 20 - mark);
        }
        Given.weightsAre(check, house, 20, 19, 18, 17, 16);
        for (int wrong : Given.WRONG) {
            check.none("now(" + wrong + ")", house.now(wrong));
        }
        check.none("now(5)", house.now(5));
    }
}
