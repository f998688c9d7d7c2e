import java.util.ArrayList;
import java.util.LinkedHashMap;
import java.util.List;
import java.util.Map;
import java.util.function.Consumer;

/** Sentences that speak of what another call left behind: weights, the list at hand, clicks, images. */
final class LeftBehindTest {
    private LeftBehindTest() {
    }

    static void run(Check check) {
        weightsAfterEachCall(check);
        listAfterEachCall(check);
        nextListByRulesAsTheyAre(check);
        sureByClicksAndByNumbers(check);
        imageOfEachChange(check);
        imageOfEachOtherImage(check);
    }

    /** Fresh says page 0, seen says page 1, people say page 1. */
    private static void weightsAfterEachCall(Check check) {
        check.promise("15, 16, 19 with 7, 17, 18, 20: which WEIGHTS are there");
        FoundFirst house = Given.freshAgainstSeen();
        Given.weightsAre(check, house, 1, 1, 1, 1, 1);
        check.due("keep()", 0, house.keep());
        check.yes("weight(2, 20)", house.weight(2, 20));
        check.no("weight(2, 21)", house.weight(2, 21));
        check.no("weight(5, 3)", house.weight(5, 3));
        Given.weightsAre(check, house, 1, 1, 20, 1, 1);
        check.none("tune(2, 2)", house.tune(2, 2));
        check.none("tune(2, 5)", house.tune(2, 5));
        check.none("tune(-1, 2)", house.tune(-1, 2));
        Given.weightsAre(check, house, 1, 1, 20, 1, 1);
        check.due("step(): one less of fresh", 180, house.step());
        Given.weightsAre(check, house, 1, 1, 20, 0, 1);
        check.none("step(): none is better", house.step());
        Given.weightsAre(check, house, 1, 1, 20, 0, 1);
        check.due("keep()", 1, house.keep());
        check.due("tune(4, 3)", 180, house.tune(4, 3));
        Given.weightsAre(check, house, 1, 1, 20, 0, 1);
        check.yes("weight(3, 2)", house.weight(3, 2));
        check.due("tune(0, 1): they change nothing", 90, house.tune(0, 1));
        Given.weightsAre(check, house, 0, 0, 20, 2, 1);
        check.due("lost(1, 0, 2)", 90, house.lost(1, 0, 2));
        check.due("lost(0, 1, 0)", 0, house.lost(0, 1, 0));
        check.none("lost(0, 2, 0)", house.lost(0, 2, 0));
        Given.weightsAre(check, house, 0, 0, 20, 2, 1);
        check.no("back(2)", house.back(2));
        Given.weightsAre(check, house, 0, 0, 20, 2, 1);
        check.yes("back(1)", house.back(1));
        Given.weightsAre(check, house, 1, 1, 20, 0, 1);
        check.yes("back(0)", house.back(0));
        Given.weightsAre(check, house, 1, 1, 1, 1, 1);
        check.due("tune(3, 4)", 180, house.tune(3, 4));
        Given.weightsAre(check, house, 1, 1, 1, 0, 1);
        check.yes("back(0): a version stays as it was kept", house.back(0));
        Given.weightsAre(check, house, 1, 1, 1, 1, 1);
        house.hold(0, true);
        check.none("step(): the query is held out", house.step());
        Given.weightsAre(check, house, 1, 1, 1, 1, 1);
        check.due("tune(3, 4): nothing to tune by", 0, house.tune(3, 4));
        Given.weightsAre(check, house, 1, 1, 1, 0, 0);
        for (int version = 2; version < 30; version++) {
            check.due("keep()", version, house.keep());
        }
        check.none("keep()", house.keep());
        Given.weightsAre(check, house, 1, 1, 1, 0, 0);
    }

    /** Calls of every kind but mix and click that are taken, and mixes that are not. */
    private static Map<String, Consumer<FoundFirst>> callsThatLeaveTheList() {
        Map<String, Consumer<FoundFirst>> calls = new LinkedHashMap<>();
        calls.put("mix of no such query", house -> house.mix(3, 1, 0, 2));
        calls.put("mix of no such version a", house -> house.mix(1, 2, 0, 2));
        calls.put("mix of no such version b", house -> house.mix(1, 1, -1, 2));
        calls.put("click on no such place", house -> house.click(4));
        calls.put("page", house -> house.page(0, 0, 0));
        calls.put("word", house -> house.word(3, 0, 0));
        calls.put("renew of each page", house -> {
            for (int p = 0; p < 5; p++) {
                house.renew(p, 0, 0);
            }
        });
        calls.put("query", house -> house.query(1, false));
        calls.put("hold", house -> house.hold(0, true));
        calls.put("weight", house -> house.weight(3, 20));
        calls.put("pinning", house -> house.rule(0, 2, 1));
        calls.put("sinking", house -> house.rule(0, 1, 2));
        calls.put("taking back a rule", house -> house.rule(0, 1, 0));
        calls.put("grade", house -> house.grade(0, 1, 3));
        calls.put("tune", house -> house.tune(0, 3));
        calls.put("step", house -> house.step());
        calls.put("keep", house -> house.keep());
        calls.put("back", house -> house.back(0));
        calls.put("lost", house -> house.lost(0, 1, 2));
        calls.put("sure", house -> house.sure(6, 6));
        calls.put("image", house -> house.image(1));
        return calls;
    }

    private static List<Integer> listOf(FoundFirst house) {
        List<Integer> seen = new ArrayList<>();
        for (int k = 0; k < 7; k++) {
            seen.add(house.mixed(k, 0));
            seen.add(house.mixed(k, 1));
        }
        for (int what = 0; what < 4; what++) {
            seen.add(house.trial(what));
        }
        for (int k = 0; k < 7; k++) {
            seen.add(house.click(k));
        }
        return seen;
    }

    private static void listAfterEachCall(Check check) {
        check.promise("22 to 24 with 4, 8, 18 and 21: the list at hand and its clicks");
        List<Integer> before = listOf(House.ordinary().made().get());
        for (Map.Entry<String, Consumer<FoundFirst>> call : callsThatLeaveTheList().entrySet()) {
            check.yes("they stay by " + call.getKey(),
                    before.equals(listOf(House.ordinary().after(call.getValue()))));
        }
        check.no("but not by mix", before.equals(listOf(House.ordinary().after(house -> house.mix(0, 0, 1, 0)))));
    }

    private static FoundFirst sixByNumberAndByAge() {
        FoundFirst house = Given.pagesByAge(new int[] {0, 1, 2, 3, 0, 1}, new int[] {50, 40, 30, 20, 10, 0});
        house.weight(3, 0);
        house.keep();
        house.weight(3, 1);
        house.keep();
        return house;
    }

    private static void pagesAre(Check check, FoundFirst house, String turns) {
        for (int k = 0; k < turns.length() / 2; k++) {
            check.due("mixed(" + k + ", 1)", turns.charAt(2 * k) - 'a', house.mixed(k, 1));
            check.due("mixed(" + k + ", 0)", turns.charAt(2 * k + 1) - '0', house.mixed(k, 0));
        }
        check.none("the place behind it", house.mixed(turns.length() / 2, 0));
    }

    private static void nextListByRulesAsTheyAre(Check check) {
        check.promise("Terms 4: ORDERS by RULES as they are, with 4, 7, 8, 18");
        FoundFirst house = sixByNumberAndByAge();
        check.due("mix(0, 0, 1, 1)", 6, house.mix(0, 0, 1, 1));
        pagesAre(check, house, "a0b5b4a1b3a2");
        check.due("click(1)", 1, house.click(1));
        house.rule(0, 3, 1);
        house.rule(0, 0, 2);
        pagesAre(check, house, "a0b5b4a1b3a2");
        house.mix(0, 0, 1, 1);
        pagesAre(check, house, "a3b5b4a1b2a0");
        check.due("click(1) goes on", 2, house.click(1));
        house.back(0);
        house.weight(4, 20);
        pagesAre(check, house, "a3b5b4a1b2a0");
        house.mix(0, 0, 1, 1);
        pagesAre(check, house, "a3b5b4a1b2a0");
        house.renew(3, 0, 0);
        pagesAre(check, house, "a3b5b4a1b2a0");
        check.due("click(0) on the renewed one", 1, house.click(0));
        check.due("mix(0, 0, 1, 1)", 5, house.mix(0, 0, 1, 1));
        pagesAre(check, house, "a1b5b4a2b0");
        house.word(3, 0, 0);
        check.due("mix(0, 0, 1, 0)", 6, house.mix(0, 0, 1, 0));
        pagesAre(check, house, "b3a1b5a2b4a0");
        check.none("mix(1, 0, 1, 0)", house.mix(1, 0, 1, 0));
        check.none("mix(0, 1, 2, 0)", house.mix(0, 1, 2, 0));
        pagesAre(check, house, "b3a1b5a2b4a0");
        check.due("trial(0)", 1, house.trial(0));
        check.due("trial(1)", 2, house.trial(1));
    }

    /** a's clicks come first, then b's, so that each x and each n above it is met. */
    private static void sureByClicksAndByNumbers(Check check) {
        check.promise("24 trial(2) and 25 sure: of each x among each n clicks");
        for (int forA = 0; forA <= 55; forA++) {
            FoundFirst house = sixByNumberAndByAge();
            house.mix(0, 0, 1, 1);
            for (int i = 0; i < forA; i++) {
                house.click(0);
            }
            for (int n = forA; n <= 55; n++) {
                int due = MixingTest.isSure(forA, n) ? 1 : 0;
                String of = forA + " among " + n;
                check.due("trial(2) of " + of, due, house.trial(2));
                check.due("sure of " + of, due, house.sure(forA, n) ? 1 : 0);
                check.due("sure of the others of " + of, due, house.sure(n - forA, n) ? 1 : 0);
                check.due("trial(3) of " + of, 2 * forA == n ? -1 : 2 * forA > n ? 0 : 1, house.trial(3));
                check.due("click(1) after " + of, n == 55 ? -1 : n - forA + 1, house.click(1));
            }
        }
    }

    private static Map<String, Consumer<FoundFirst>> callsThatChange() {
        Map<String, Consumer<FoundFirst>> calls = new LinkedHashMap<>();
        calls.put("page", house -> house.page(2, 3, 4));
        calls.put("word", house -> house.word(3, 1, 0));
        calls.put("renew", house -> house.renew(4, 77, 123));
        calls.put("query", house -> house.query(2, false));
        calls.put("hold(0, true)", house -> house.hold(0, true));
        calls.put("hold(1, false)", house -> house.hold(1, false));
        calls.put("weight", house -> house.weight(1, 4));
        calls.put("pinning", house -> house.rule(0, 2, 1));
        calls.put("sinking", house -> house.rule(0, 2, 2));
        calls.put("pinning one sunk", house -> house.rule(0, 0, 1));
        calls.put("sinking one pinned", house -> house.rule(0, 1, 2));
        calls.put("taking back a rule", house -> house.rule(0, 1, 0));
        calls.put("a rule of no find", house -> house.rule(2, 0, 1));
        calls.put("grade", house -> house.grade(0, 1, 1));
        calls.put("grade of no find", house -> house.grade(2, 0, 1));
        calls.put("tune", house -> house.tune(0, 1));
        calls.put("step", house -> house.step());
        calls.put("keep", house -> house.keep());
        calls.put("back", house -> house.back(0));
        calls.put("mix by the same versions", house -> house.mix(0, 0, 1, 2));
        calls.put("mix by other versions", house -> house.mix(0, 0, 0, 1));
        calls.put("mix of no finds", house -> house.mix(2, 0, 1, 1));
        calls.put("click", house -> house.click(2));
        return calls;
    }

    /** By this weight a step is there to be taken. */
    private static FoundFirst ready() {
        return House.ordinary().after(house -> house.weight(0, 1));
    }

    private static FoundFirst readyAnd(Consumer<FoundFirst> more) {
        FoundFirst house = ready();
        more.accept(house);
        return house;
    }

    private static void alike(Check check, String what, Consumer<FoundFirst> one, Consumer<FoundFirst> other) {
        check.yes(what, Looks.at(() -> readyAnd(one)).equals(Looks.at(() -> readyAnd(other))));
    }

    private static void imageOfEachChange(Check check) {
        check.promise("26 image, 27 again: with each call that changes something, before and after");
        Map<String, Consumer<FoundFirst>> calls = callsThatChange();
        Consumer<FoundFirst> takeImage = house -> house.image(1);
        Consumer<FoundFirst> allCallsAndBack = house -> {
            calls.values().forEach(call -> call.accept(house));
            house.again(1);
        };
        for (Map.Entry<String, Consumer<FoundFirst>> entry : calls.entrySet()) {
            String name = entry.getKey();
            Consumer<FoundFirst> call = entry.getValue();
            check.no(name + " shows", Looks.at(LeftBehindTest::ready).equals(Looks.at(() -> readyAnd(call))));
            alike(check, name + " after the image is undone", takeImage,
                    takeImage.andThen(call).andThen(house -> house.again(1)));
            alike(check, name + " before the image stays", call.andThen(takeImage),
                    call.andThen(takeImage).andThen(allCallsAndBack));
            alike(check, name + " after again is as without", takeImage.andThen(call),
                    takeImage.andThen(allCallsAndBack).andThen(call));
        }
    }

    private static void imageOfEachOtherImage(Check check) {
        check.promise("27 again: other images stay");
        for (int k = 0; k < 3; k++) {
            FoundFirst house = new FoundFirst();
            for (int image = 0; image < 3; image++) {
                house.weight(0, 10 + image);
                house.keep();
                house.image(image);
            }
            house.weight(0, 20);
            check.yes("again(" + k + ")", house.again(k));
            check.due("now(0)", 10 + k, house.now(0));
            check.due("keep()", k + 1, house.keep());
            for (int image = 2; image >= 0; image--) {
                check.yes("again(" + image + ")", house.again(image));
                check.due("now(0)", 10 + image, house.now(0));
                check.due("keep()", image + 1, house.keep());
            }
        }
    }
}
