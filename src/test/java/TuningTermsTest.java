/** Terms 3 and promises 15 to 20: what is tuned, a step, versions, what is lost; each with its edge. */
final class TuningTermsTest {
    private static final int PAGE_0 = 0;
    private static final int PAGE_1 = 1;

    private TuningTermsTest() {
    }

    static void run(Check check) {
        leastFirstThenLeastSecond(check);
        onlyTheLastPairIsEnough(check);
        onlyTheFirstPairIsEnough(check);
        firstPairsThatAreEnough(check);
        noPairIsEnough(check);
        othersAsTheyAre(check);
        tunedAsByGoingThroughAll(check);
        tunedByAllQueries(check);
        nothingToTune(check);
        stepOfEachMark(check);
        stepOfTheLeastMark(check);
        stepOfTheMostWorth(check);
        stepOfOneLessFirst(check);
        stepByOneMoreWorth(check);
        stepInsideTheBounds(check);
        steppedAsByGoingThroughAll(check);
        noStep(check);
        thirtyVersions(check);
        versionsAreKept(check);
        lostByOne(check);
        lostBySeveral(check);
        lostOfNothing(check);
    }

    /** Page 1 stands ahead of page 0 if weights 0 and 1 together are more than 3 and 4 together. */
    private static FoundFirst fieldsAgainstTheRest(int graded) {
        FoundFirst house = new FoundFirst();
        house.page(0, 90, 5);
        house.page(0, 100, 0);
        Given.words(house, 0, 0, 1, 2);
        Given.words(house, 0, 1, 3);
        Given.words(house, 1, 0, 1, 2, 3);
        Given.words(house, 1, 1, 1, 2);
        house.query(14, false);
        house.grade(0, graded, 3);
        return house;
    }

    private static void weigh(FoundFirst house, int... values) {
        for (int mark = 0; mark < values.length; mark++) {
            house.weight(mark, values[mark]);
        }
    }

    private static void tuned(Check check, FoundFirst house, int a, int b, int worth, int... values) {
        check.due("tune(" + a + ", " + b + ")", worth, house.tune(a, b));
        Given.weightsAre(check, house, values);
        check.due("all(false) then", worth, house.all(false));
    }

    private static void leastFirstThenLeastSecond(Check check) {
        check.promise("Terms 3: of several the least first WEIGHT, then the least second one");
        FoundFirst house = fieldsAgainstTheRest(PAGE_1);
        weigh(house, 9, 9, 9, 20, 5);
        tuned(check, house, 0, 1, 180, 6, 20, 9, 20, 5);
        tuned(check, house, 1, 0, 180, 20, 6, 9, 20, 5);
        weigh(house, 0, 0, 9, 10, 5);
        tuned(check, house, 0, 1, 180, 0, 16, 9, 10, 5);
        tuned(check, house, 1, 0, 180, 16, 0, 9, 10, 5);
        weigh(house, 3, 5, 9, 7, 20);
        tuned(check, house, 0, 3, 180, 16, 5, 9, 0, 20);
        weigh(house, 3, 5, 9, 7, 20);
        tuned(check, house, 3, 0, 180, 16, 5, 9, 0, 20);
        FoundFirst other = fieldsAgainstTheRest(PAGE_0);
        weigh(other, 20, 6, 0, 1, 1);
        tuned(check, other, 3, 4, 180, 20, 6, 0, 6, 20);
        tuned(check, other, 4, 3, 180, 20, 6, 0, 20, 6);
        weigh(other, 8, 20, 0, 1, 5);
        tuned(check, other, 3, 0, 180, 0, 20, 0, 15, 5);
        weigh(other, 8, 20, 0, 1, 5);
        tuned(check, other, 0, 3, 180, 0, 20, 0, 15, 5);
    }

    private static void onlyTheLastPairIsEnough(Check check) {
        check.promise("Terms 3: of all values 0 .. 20 of both WEIGHTS");
        FoundFirst house = fieldsAgainstTheRest(PAGE_1);
        weigh(house, 1, 1, 1, 20, 19);
        tuned(check, house, 0, 1, 180, 20, 20, 1, 20, 19);
        weigh(house, 1, 1, 1, 19, 20);
        tuned(check, house, 1, 0, 180, 20, 20, 1, 19, 20);
        FoundFirst other = fieldsAgainstTheRest(PAGE_0);
        weigh(other, 20, 20, 1, 0, 0);
        tuned(check, other, 3, 4, 180, 20, 20, 1, 20, 20);
    }

    private static void onlyTheFirstPairIsEnough(Check check) {
        FoundFirst house = fieldsAgainstTheRest(PAGE_0);
        weigh(house, 20, 20, 3, 0, 0);
        tuned(check, house, 0, 1, 180, 0, 0, 3, 0, 0);
        weigh(house, 20, 20, 3, 0, 0);
        tuned(check, house, 1, 0, 180, 0, 0, 3, 0, 0);
    }

    private static void firstPairsThatAreEnough(Check check) {
        FoundFirst house = fieldsAgainstTheRest(PAGE_1);
        weigh(house, 20, 20, 1, 0, 0);
        tuned(check, house, 0, 1, 180, 0, 1, 1, 0, 0);
        weigh(house, 20, 20, 1, 0, 0);
        tuned(check, house, 1, 0, 180, 1, 0, 1, 0, 0);
        weigh(house, 0, 0, 1, 0, 20);
        tuned(check, house, 0, 1, 180, 1, 20, 1, 0, 20);
    }

    private static void noPairIsEnough(Check check) {
        FoundFirst house = fieldsAgainstTheRest(PAGE_1);
        weigh(house, 7, 8, 1, 20, 20);
        tuned(check, house, 0, 1, 90, 0, 0, 1, 20, 20);
    }

    private static void othersAsTheyAre(Check check) {
        check.promise("Terms 3: the others as they are");
        for (int a = 0; a < 5; a++) {
            for (int b = 0; b < 5; b++) {
                FoundFirst house = fieldsAgainstTheRest(PAGE_1);
                weigh(house, 11, 12, 13, 14, 15);
                check.due("tune(" + a + ", " + b + ")", a == b ? -1 : 180, house.tune(a, b));
                for (int mark = 0; mark < 5; mark++) {
                    if (a == b || mark != a && mark != b) {
                        check.due("now(" + mark + ")", 11 + mark, house.now(mark));
                    }
                }
            }
        }
    }

    /** Goes through the pairs by weight and all, on houses of their own, for each pair of marks. */
    private static void tunedAsByGoingThroughAll(Check check) {
        check.promise("Terms 3: those with the most WORTH in all (not HELD OUT)");
        for (House like : new House[] {House.ordinary(), House.withAllPages(), House.withAllRules()}) {
            for (int a = 0; a < 5; a++) {
                for (int b = 0; b < 5; b++) {
                    if (a != b) {
                        tunedAsByGoingThroughAll(check, like, a, b);
                    }
                }
            }
        }
    }

    private static void tunedAsByGoingThroughAll(Check check, House like, int a, int b) {
        int most = -1;
        int first = 0;
        int second = 0;
        for (int x = 0; x <= 20; x++) {
            FoundFirst house = like.made().get();
            house.weight(a, x);
            for (int y = 0; y <= 20; y++) {
                house.weight(b, y);
                int worth = house.all(false);
                if (worth > most) {
                    most = worth;
                    first = x;
                    second = y;
                }
            }
        }
        FoundFirst house = like.made().get();
        check.due(like.name() + ", tune(" + a + ", " + b + ")", most, house.tune(a, b));
        check.due("now(" + a + ")", first, house.now(a));
        check.due("now(" + b + ")", second, house.now(b));
    }

    /** The first queries gain by seen, the others by fresh; all count that are not held out. */
    private static void tunedByAllQueries(Check check) {
        for (int forSeen = 0; forSeen <= 12; forSeen++) {
            FoundFirst house = Given.freshAgainstSeen();
            for (int q = 0; q < 12; q++) {
                if (q > 0) {
                    house.query(1, false);
                }
                house.grade(q, 0, q < forSeen ? 0 : 2);
                house.grade(q, 1, q < forSeen ? 2 : 0);
            }
            boolean seenFirst = forSeen > 6;
            int worth = 120 * Math.max(forSeen, 12 - forSeen) + 60 * Math.min(forSeen, 12 - forSeen);
            tuned(check, house, 3, 4, worth, 1, 1, 1, 0, seenFirst ? 1 : 0);
            house.weight(3, 1);
            house.weight(4, seenFirst ? 2 : 3);
            check.due(forSeen + " for seen, step()", forSeen == 6 ? -1 : worth, house.step());
            int fresh = seenFirst ? 0 : forSeen == 6 ? 1 : 2;
            Given.weightsAre(check, house, 1, 1, 1, fresh, seenFirst ? 2 : 3);
            for (int q = 0; q < forSeen; q++) {
                house.hold(q, true);
            }
            tuned(check, house, 4, 3, 120 * (12 - forSeen), 1, 1, 1, 0, 0);
        }
    }

    private static void nothingToTune(Check check) {
        check.promise("15 tune: nothing is worth anything");
        FoundFirst empty = new FoundFirst();
        tuned(check, empty, 4, 0, 0, 0, 1, 1, 1, 0);
        FoundFirst held = fieldsAgainstTheRest(PAGE_1);
        weigh(held, 5, 5, 5, 5, 5);
        held.hold(0, true);
        tuned(check, held, 0, 1, 0, 0, 0, 5, 5, 5);
        check.due("all(true)", 90, held.all(true));
        FoundFirst without = fieldsAgainstTheRest(PAGE_1);
        without.grade(0, PAGE_1, 0);
        tuned(check, without, 3, 4, 0, 1, 1, 1, 0, 0);
    }

    /** Page 1 has more of this mark than page 0 and is its like in all others. */
    private static FoundFirst aheadByOneMark(int mark, int graded) {
        FoundFirst house = new FoundFirst();
        house.page(0, 100, 0);
        house.page(0, mark == 3 ? 90 : 100, mark == 4 ? 1 : 0);
        house.query(14, false);
        int[][] titles = {{1, 2}, {1, 2, 3}, {1, 2, 3}, {1, 2, 3}, {1, 2, 3}};
        int[][] bodies = {{3}, {1}, {1, 9, 2, 3}, {1}, {1}};
        Given.words(house, 0, 0, titles[mark]);
        Given.words(house, 0, 1, bodies[mark]);
        Given.words(house, 1, 0, 1, 2, 3);
        Given.words(house, 1, 1, mark == 1 ? new int[] {1, 2} : mark == 2 ? new int[] {1, 2, 3} : bodies[mark]);
        house.grade(0, graded, 3);
        return house;
    }

    private static void stepOfEachMark(Check check) {
        check.promise("Terms 3: a STEP: of all changes of one WEIGHT by one");
        for (int mark = 0; mark < 5; mark++) {
            for (int graded = 0; graded < 2; graded++) {
                FoundFirst house = aheadByOneMark(mark, graded);
                for (int m = 0; m < 5; m++) {
                    int more = m == mark ? 1 : 0;
                    check.due("mark " + m, house.why(0, 0, m) + more, house.why(0, 1, m));
                    house.weight(m, m == mark ? 1 - graded : 7);
                }
                int[] values = {7, 7, 7, 7, 7};
                values[mark] = graded;
                stepped(check, house, 180, values);
                check.none("no further one", house.step());
                Given.weightsAre(check, house, values);
            }
        }
    }

    private static void stepOfTheLeastMark(Check check) {
        check.promise("Terms 3: a STEP: of several the one of the least MARK");
        FoundFirst house = fieldsAgainstTheRest(PAGE_1);
        weigh(house, 6, 10, 1, 9, 7);
        stepped(check, house, 180, 7, 10, 1, 9, 7);
        weigh(house, 20, 10, 1, 20, 10);
        stepped(check, house, 180, 20, 11, 1, 20, 10);
        weigh(house, 20, 20, 1, 20, 20);
        stepped(check, house, 180, 20, 20, 1, 19, 20);
        FoundFirst other = fieldsAgainstTheRest(PAGE_0);
        weigh(other, 0, 5, 1, 4, 0);
        stepped(check, other, 180, 0, 4, 1, 4, 0);
        weigh(other, 1, 0, 1, 0, 0);
        stepped(check, other, 180, 0, 0, 1, 0, 0);
    }

    private static void stepped(Check check, FoundFirst house, int worth, int... values) {
        check.due("step()", worth, house.step());
        Given.weightsAre(check, house, values);
        check.due("all(false) then", worth, house.all(false));
    }

    /** The word 1 is found by body or by title, the word 2 by fresh or by seen; both are ties. */
    private static void stepOfTheMostWorth(Check check) {
        check.promise("Terms 3: a STEP: that with the most WORTH");
        FoundFirst house = new FoundFirst();
        house.page(0, 100, 0);
        house.page(1, 100, 0);
        house.page(2, 90, 0);
        house.page(3, 100, 7);
        house.word(0, 1, 1);
        house.word(1, 0, 1);
        house.word(2, 0, 2);
        house.word(3, 0, 2);
        house.query(2, false);
        house.query(4, false);
        house.grade(0, 1, 1);
        house.grade(1, 3, 3);
        weigh(house, 4, 4, 0, 6, 6);
        check.due("now", 30 + 90, house.all(false));
        stepped(check, house, 30 + 180, 4, 4, 0, 5, 6);
        stepped(check, house, 60 + 180, 5, 4, 0, 5, 6);
        check.none("no more", house.step());
        Given.weightsAre(check, house, 5, 4, 0, 5, 6);
    }

    /** One query gains as much by a mark that weighs less as the other by one that weighs more. */
    private static void stepOfOneLessFirst(Check check) {
        check.promise("Terms 3: a STEP: one less ahead of one more");
        FoundFirst title = new FoundFirst();
        for (int p = 0; p < 4; p++) {
            title.page(p, 100, 0);
            title.word(p, p == 0 || p == 3 ? 0 : 1, p / 2);
        }
        gradeTheSecondOfBoth(title);
        weigh(title, 10, 1, 1, 1, 1);
        check.due("now, title and body being alike", 60 + 60, title.all(false));
        stepped(check, title, 60 + 120, 9, 1, 1, 1, 1);
        FoundFirst fresh = new FoundFirst();
        for (int p = 0; p < 4; p++) {
            boolean isFresh = p == 0 || p == 3;
            fresh.page(p, isFresh ? 90 : 100, isFresh ? 0 : 1);
            fresh.word(p, 0, p / 2);
        }
        gradeTheSecondOfBoth(fresh);
        weigh(fresh, 10, 10, 10, 10, 10);
        check.due("now, fresh and seen being alike", 60 + 60, fresh.all(false));
        stepped(check, fresh, 60 + 120, 10, 10, 10, 9, 10);
    }

    private static void gradeTheSecondOfBoth(FoundFirst house) {
        house.query(1, false);
        house.query(2, false);
        house.grade(0, 1, 2);
        house.grade(1, 3, 2);
    }

    /** The first two are pinned; of the rest, with grades 2, 3 and 0, fresh ones make 84 and 0 makes 85. */
    private static FoundFirst eightyFourOrFive() {
        FoundFirst house = Given.pagesByAge(new int[] {0, 0, 1, 2, 3}, new int[] {100, 100, 20, 0, 10});
        house.rule(0, 0, 1);
        house.rule(0, 1, 1);
        house.grade(0, 2, 2);
        house.grade(0, 3, 3);
        return house;
    }

    private static void stepByOneMoreWorth(Check check) {
        check.promise("Terms 3: a STEP: if it is more than it is now");
        FoundFirst house = eightyFourOrFive();
        check.due("now", 84, house.all(false));
        stepped(check, house, 85, 1, 1, 1, 0, 1);
        check.none("as much or less is no step", house.step());
        Given.weightsAre(check, house, 1, 1, 1, 0, 1);
        house.weight(3, 2);
        check.none("two of one are no step", house.step());
        check.due("tune(3, 4) goes further", 85, house.tune(3, 4));
    }

    private static void stepInsideTheBounds(Check check) {
        check.promise("Terms 3: a STEP: of all changes of one WEIGHT by one (0 .. 20)");
        FoundFirst up = fieldsAgainstTheRest(PAGE_1);
        weigh(up, 19, 20, 1, 19, 20);
        stepped(check, up, 180, 20, 20, 1, 19, 20);
        FoundFirst down = fieldsAgainstTheRest(PAGE_1);
        weigh(down, 0, 20, 1, 20, 0);
        stepped(check, down, 180, 1, 20, 1, 20, 0);
        FoundFirst atMost = fieldsAgainstTheRest(PAGE_0);
        weigh(atMost, 20, 1, 1, 20, 0);
        stepped(check, atMost, 180, 19, 1, 1, 20, 0);
        weigh(atMost, 0, 1, 1, 0, 0);
        stepped(check, atMost, 180, 0, 0, 1, 0, 0);
        FoundFirst near = new FoundFirst();
        near.page(0, 100, 0);
        near.page(0, 90, 0);
        near.word(0, 1, 0);
        near.word(1, 0, 0);
        near.query(1, false);
        near.grade(0, 1, 3);
        weigh(near, 20, 19, 0, 0, 0);
        check.none("page 1 is first", near.step());
        weigh(near, 20, 11, 1, 0, 0);
        stepped(check, near, 180, 20, 10, 1, 0, 0);
        weigh(near, 20, 20, 0, 0, 20);
        stepped(check, near, 180, 20, 19, 0, 0, 20);
        weigh(near, 0, 0, 0, 0, 0);
        stepped(check, near, 180, 1, 0, 0, 0, 0);
    }

    private static void steppedAsByGoingThroughAll(Check check) {
        check.promise("Terms 3: a STEP as by weight and all");
        House[] houses = {House.ordinary(), House.withAllPages(), House.withAllRules(), House.withAllWords()};
        for (House like : houses) {
            for (int value = 0; value <= 20; value++) {
                for (int mark = 0; mark < 5; mark++) {
                    steppedAsByGoingThroughAll(check, like, mark, value);
                }
            }
        }
    }

    private static void steppedAsByGoingThroughAll(Check check, House like, int start, int value) {
        FoundFirst tried = like.made().get();
        tried.weight(start, value);
        int most = tried.all(false);
        int bestMark = -1;
        int bestValue = 0;
        for (int mark = 0; mark < 5; mark++) {
            int was = tried.now(mark);
            for (int next = was - 1; next <= was + 1; next += 2) {
                if (tried.weight(mark, next) && tried.all(false) > most) {
                    most = tried.all(false);
                    bestMark = mark;
                    bestValue = next;
                }
                tried.weight(mark, was);
            }
        }
        FoundFirst house = like.made().get();
        house.weight(start, value);
        check.due(like.name() + ", step()", bestMark == -1 ? -1 : most, house.step());
        for (int mark = 0; mark < 5; mark++) {
            int due = mark == bestMark ? bestValue : tried.now(mark);
            check.due(like.name() + ", now(" + mark + ")", due, house.now(mark));
        }
    }

    private static void noStep(Check check) {
        check.promise("16 step: NONE: there is none");
        FoundFirst empty = new FoundFirst();
        check.none("of a new object", empty.step());
        FoundFirst held = fieldsAgainstTheRest(PAGE_1);
        held.hold(0, true);
        check.none("all held out", held.step());
        held.hold(0, false);
        check.due("held out no more", 180, held.step());
        FoundFirst first = fieldsAgainstTheRest(PAGE_0);
        check.none("it is first already", first.step());
        Given.weightsAre(check, first, 1, 1, 1, 1, 1);
    }

    private static void thirtyVersions(Check check) {
        check.promise("Terms 3: VERSIONS: from 0 on, 30 at most");
        FoundFirst house = new FoundFirst();
        house.query(1, false);
        for (int version = 0; version < 30; version++) {
            check.no("back(" + version + ") before", house.back(version));
            check.none("lost(0, " + version + ", 0) before", house.lost(0, version, 0));
            weigh(house, version % 21, version / 21, 20 - version % 21, 3, 4);
            check.due("keep()", version, house.keep());
        }
        weigh(house, 20, 20, 20, 20, 20);
        check.none("a 31st", house.keep());
        check.no("back(30)", house.back(30));
        check.none("lost(30, 0, 0)", house.lost(30, 0, 0));
        check.none("mix(0, 0, 30, 0)", house.mix(0, 0, 30, 0));
        Given.weightsAre(check, house, 20, 20, 20, 20, 20);
        check.due("lost(29, 29, 0)", 0, house.lost(29, 29, 0));
        check.due("mix(0, 29, 29, 0)", 0, house.mix(0, 29, 29, 0));
    }

    private static void versionsAreKept(Check check) {
        check.promise("18 back: WEIGHTS are those of a VERSION again");
        FoundFirst house = new FoundFirst();
        for (int version = 0; version < 30; version++) {
            weigh(house, version % 21, version / 21, 20 - version % 21, 3, 4);
            house.keep();
        }
        for (int version = 29; version >= 0; version--) {
            check.yes("back(" + version + ")", house.back(version));
            Given.weightsAre(check, house, version % 21, version / 21, 20 - version % 21, 3, 4);
        }
        check.none("back makes no room", house.keep());
    }

    private static void lostByOne(Check check) {
        check.promise("19 lost: how many QUERIES have less WORTH by VERSION b than by VERSION a");
        FoundFirst house = eightyFourOrFive();
        house.keep();
        house.weight(3, 0);
        house.keep();
        check.due("85 before and 84 then", 1, house.lost(1, 0, 0));
        check.due("the one", 0, house.lost(1, 0, 1));
        check.due("by one", 1, house.lost(1, 0, 2));
        check.due("84 before and 85 then", 0, house.lost(0, 1, 0));
        check.none("none", house.lost(0, 1, 1));
        check.due("by nothing", 0, house.lost(0, 1, 2));
        check.due("as much", 0, house.lost(1, 1, 0));
    }

    /** Twelve queries that lose by seen against fresh, as their grades are. */
    private static void lostBySeveral(Check check) {
        check.promise("19 lost: HELD OUT ones, too; of several the least");
        FoundFirst house = Given.freshAgainstSeen();
        int[] grades = {0, 1, 3, 3, 2, 0, 3, 1, 0, 0, 0, 3};
        for (int q = 0; q < 12; q++) {
            if (q > 0) {
                house.query(1, false);
            }
            house.grade(q, 0, grades[q]);
            house.grade(q, 1, 0);
        }
        house.keep();
        house.weight(3, 0);
        house.keep();
        lostIs(check, house, 7, 2, 90);
        house.hold(2, true);
        house.hold(11, true);
        lostIs(check, house, 7, 2, 90);
        house.grade(2, 0, 2);
        lostIs(check, house, 7, 3, 90);
        for (int q = 2; q < 11; q++) {
            house.grade(q, 0, 0);
        }
        lostIs(check, house, 2, 11, 90);
        house.grade(11, 0, 0);
        lostIs(check, house, 1, 1, 30);
        house.grade(0, 0, 1);
        lostIs(check, house, 2, 0, 30);
        house.grade(0, 1, 3);
        lostIs(check, house, 1, 1, 30);
    }

    private static void lostIs(Check check, FoundFirst house, int many, int most, int by) {
        check.due("lost(0, 1, 0)", many, house.lost(0, 1, 0));
        check.due("lost(0, 1, 1)", most, house.lost(0, 1, 1));
        check.due("lost(0, 1, 2)", by, house.lost(0, 1, 2));
    }

    private static void lostOfNothing(Check check) {
        check.promise("19 lost: NONE if none does; 0");
        FoundFirst house = new FoundFirst();
        house.keep();
        check.due("no queries, what 0", 0, house.lost(0, 0, 0));
        check.none("no queries, what 1", house.lost(0, 0, 1));
        check.due("no queries, what 2", 0, house.lost(0, 0, 2));
        check.none("another what", house.lost(0, 0, 3));
        Given.weightsAre(check, house, 1, 1, 1, 1, 1);
    }
}
