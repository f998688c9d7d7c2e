/** Terms 4 and promises 21 to 25: the mixed list, its bits, its clicks, and what is sure. */
final class MixTermsTest {
    private MixTermsTest() {
    }

    static void run(Check check) {
        sixOrAllFinds(check);
        lowestBitFirst(check);
        bitsBeyondTheThird(check);
        whatIsInTheListAlready(check);
        fewerFindsThanSix(check);
        noFinds(check);
        lastQueryAndVersions(check);
        rulesAsTheyAre(check);
        clicksOfEachPlace(check);
        fiftyFiveForOne(check);
        fiftyFiveForBoth(check);
        otherVersions(check);
        sameVersions(check);
        trialAtFirst(check);
        trialBySides(check);
        justHalf(check);
        leastThatIsSure(check);
        lessThanHalfAlike(check);
    }

    /** Version 0 has pages by number, version 1 the other way round; query 1 finds nothing. */
    private static FoundFirst upAndDown(int finds) {
        FoundFirst house = new FoundFirst();
        for (int p = 0; p < finds; p++) {
            house.page(p / 2, 100 - 10 * p, 0);
            house.word(p, 0, 0);
        }
        house.query(1, false);
        house.query(1, true);
        for (int mark = 0; mark < 5; mark++) {
            house.weight(mark, 0);
        }
        house.keep();
        house.weight(3, 1);
        house.keep();
        return house;
    }

    /** Each turn is written as the side that takes and the page. */
    private static void listIs(Check check, FoundFirst house, String... turns) {
        for (int k = 0; k < turns.length; k++) {
            check.due("mixed(" + k + ", 0)", Integer.parseInt(turns[k].substring(1)), house.mixed(k, 0));
            check.due("mixed(" + k + ", 1)", turns[k].charAt(0) == 'a' ? 0 : 1, house.mixed(k, 1));
        }
        check.none("mixed(" + turns.length + ", 0)", house.mixed(turns.length, 0));
        check.none("mixed(" + turns.length + ", 1)", house.mixed(turns.length, 1));
    }

    private static void sixOrAllFinds(Check check) {
        check.promise("Terms 4: until it has six or all FINDS");
        for (int finds = 0; finds <= 24; finds++) {
            FoundFirst house = new FoundFirst();
            for (int p = 0; p < finds; p++) {
                house.page(p % 4, 0, 0);
                house.word(p, 0, 0);
            }
            house.query(1, false);
            house.keep();
            int length = Math.min(6, finds);
            check.due("mix of " + finds, length, house.mix(0, 0, 0, 5));
            for (int k = 0; k < 7; k++) {
                check.due("mixed(" + k + ", 0)", k < length ? k : -1, house.mixed(k, 0));
                check.due("mixed(" + k + ", 1)", k >= length ? -1 : "abbaab".charAt(k) - 'a', house.mixed(k, 1));
            }
        }
    }

    private static void lowestBitFirst(Check check) {
        check.promise("Terms 4: the next bit of the row (the lowest first; bit 1: a)");
        FoundFirst house = upAndDown(8);
        String[][] lists = {
            {"b7", "a0", "b6", "a1", "b5", "a2"},
            {"a0", "b7", "b6", "a1", "b5", "a2"},
            {"b7", "a0", "a1", "b6", "b5", "a2"},
            {"a0", "b7", "a1", "b6", "b5", "a2"},
            {"b7", "a0", "b6", "a1", "a2", "b5"},
            {"a0", "b7", "b6", "a1", "a2", "b5"},
            {"b7", "a0", "a1", "b6", "a2", "b5"},
            {"a0", "b7", "a1", "b6", "a2", "b5"}};
        for (int bits = 0; bits < 8; bits++) {
            check.due("mix(0, 0, 1, " + bits + ")", 6, house.mix(0, 0, 1, bits));
            listIs(check, house, lists[bits]);
        }
    }

    /** Six turns read three bits at most, so that no further one changes the list. */
    private static void bitsBeyondTheThird(Check check) {
        check.promise("21 mix: bits of which the highest is 1");
        FoundFirst house = upAndDown(8);
        int[] asZero = {Integer.MIN_VALUE, -8, 0x7FFFFFF8, 8};
        for (int bits : asZero) {
            check.due("mix(0, 0, 1, " + bits + ")", 6, house.mix(0, 0, 1, bits));
            listIs(check, house, "b7", "a0", "b6", "a1", "b5", "a2");
        }
        int[] asSeven = {-1, Integer.MAX_VALUE, 7 | Integer.MIN_VALUE};
        for (int bits : asSeven) {
            check.due("mix(0, 0, 1, " + bits + ")", 6, house.mix(0, 0, 1, bits));
            listIs(check, house, "a0", "b7", "a1", "b6", "a2", "b5");
        }
        check.due("mix(0, 0, 1, -4)", 6, house.mix(0, 0, 1, -4));
        listIs(check, house, "b7", "a0", "b6", "a1", "a2", "b5");
        check.due("mix(0, 0, 1, -3)", 6, house.mix(0, 0, 1, -3));
        listIs(check, house, "a0", "b7", "b6", "a1", "a2", "b5");
    }

    private static void whatIsInTheListAlready(Check check) {
        check.promise("Terms 4: the first of its ORDER that is not in the list");
        FoundFirst house = upAndDown(6);
        house.mix(0, 0, 1, 0);
        listIs(check, house, "b5", "a0", "b4", "a1", "b3", "a2");
        house.mix(0, 0, 1, 4);
        listIs(check, house, "b5", "a0", "b4", "a1", "a2", "b3");
        house.mix(0, 1, 1, 2);
        listIs(check, house, "b5", "a4", "a3", "b2", "b1", "a0");
        house.rule(0, 3, 1);
        house.mix(0, 0, 1, 3);
        listIs(check, house, "a3", "b5", "a0", "b4", "b2", "a1");
        house.rule(0, 2, 1);
        house.mix(0, 0, 1, 1);
        listIs(check, house, "a3", "b2", "b5", "a0", "b4", "a1");
    }

    private static void fewerFindsThanSix(Check check) {
        check.promise("21 mix: fewer FINDS than six");
        String[][] fromA = {{"a0"}, {"a0", "b1"}, {"a0", "b2", "a1"}, {"a0", "b3", "a1", "b2"},
            {"a0", "b4", "a1", "b3", "a2"}};
        String[][] fromB = {{"b0"}, {"b1", "a0"}, {"b2", "a0", "b1"}, {"b3", "a0", "b2", "a1"},
            {"b4", "a0", "b3", "a1", "b2"}};
        for (int finds = 1; finds <= 5; finds++) {
            FoundFirst house = upAndDown(finds);
            check.due("mix(0, 0, 1, -1) of " + finds, finds, house.mix(0, 0, 1, -1));
            listIs(check, house, fromA[finds - 1]);
            check.due("mix(0, 0, 1, 0) of " + finds, finds, house.mix(0, 0, 1, 0));
            listIs(check, house, fromB[finds - 1]);
        }
        FoundFirst three = upAndDown(3);
        three.mix(0, 0, 1, 1);
        listIs(check, three, "a0", "b2", "b1");
        three.mix(0, 0, 1, 2);
        listIs(check, three, "b2", "a0", "a1");
    }

    private static void noFinds(Check check) {
        check.promise("21 mix: no FINDS");
        FoundFirst house = upAndDown(7);
        house.mix(0, 0, 1, 1);
        check.due("a query without finds", 0, house.mix(1, 0, 1, -1));
        listIs(check, house);
        check.none("click(0)", house.click(0));
        house.mix(0, 0, 1, 1);
        check.due("click(0) of a list again", 1, house.click(0));
        for (int p = 0; p < 7; p++) {
            house.renew(p, 0, 0);
        }
        check.due("the list stays until the next", 0, house.mixed(0, 0));
        check.due("its clicks go on", 2, house.click(0));
        check.due("all finds are gone", 0, house.mix(0, 0, 1, 0));
        check.none("mixed(0, 0)", house.mixed(0, 0));
        check.due("clicks stay", 2, house.trial(0));
    }

    private static void lastQueryAndVersions(Check check) {
        check.promise("21 mix: the last of twelve QUERIES by the last of thirty VERSIONS");
        FoundFirst house = upAndDown(8);
        for (int q = 2; q < 12; q++) {
            house.query(q == 11 ? 1 : 2, false);
        }
        for (int version = 2; version < 30; version++) {
            house.back(version == 29 ? 1 : 0);
            house.keep();
        }
        check.due("mix(11, 28, 29, 7)", 6, house.mix(11, 28, 29, 7));
        listIs(check, house, "a0", "b7", "a1", "b6", "a2", "b5");
        check.due("mix(11, 29, 28, 7)", 6, house.mix(11, 29, 28, 7));
        listIs(check, house, "a7", "b0", "a6", "b1", "a5", "b2");
        check.due("mix(10, 29, 28, 7)", 0, house.mix(10, 29, 28, 7));
        check.none("mix(12, 29, 28, 7)", house.mix(12, 29, 28, 7));
        check.none("mix(11, 30, 28, 7)", house.mix(11, 30, 28, 7));
        check.none("mix(11, 29, 30, 7)", house.mix(11, 29, 30, 7));
    }

    private static void rulesAsTheyAre(Check check) {
        check.promise("Terms 4: ORDERS by RULES as they are");
        FoundFirst house = upAndDown(8);
        house.rule(0, 6, 1);
        house.rule(0, 7, 2);
        house.mix(0, 0, 1, 7);
        listIs(check, house, "a6", "b5", "a0", "b4", "a1", "b3");
        house.rule(0, 6, 0);
        listIs(check, house, "a6", "b5", "a0", "b4", "a1", "b3");
        house.mix(0, 0, 1, 7);
        listIs(check, house, "a0", "b6", "a1", "b5", "a2", "b4");
        check.due("now(3) is none of a version's business", 1, house.now(3));
    }

    private static void clicksOfEachPlace(Check check) {
        check.promise("23 click: how many there were for that one of both");
        FoundFirst house = upAndDown(8);
        house.mix(0, 0, 1, 1);
        String sides = "abbaba";
        int[] clicks = new int[2];
        for (int round = 0; round < 3; round++) {
            for (int k = 0; k < 6; k++) {
                int side = sides.charAt(k) - 'a';
                clicks[side]++;
                check.due("click(" + k + ")", clicks[side], house.click(k));
            }
            check.none("click(6)", house.click(6));
            check.none("click(-1)", house.click(-1));
        }
        check.due("trial(0)", 9, house.trial(0));
        check.due("trial(1)", 9, house.trial(1));
    }

    private static void fiftyFiveForOne(Check check) {
        check.promise("23 click: NONE: there were 55");
        for (int side = 0; side < 2; side++) {
            FoundFirst house = upAndDown(8);
            house.mix(0, 0, 1, 1);
            for (int i = 1; i <= 55; i++) {
                check.due("click " + i, i, house.click(side));
            }
            check.none("click 56", house.click(side));
            check.none("click 56 for the other one", house.click(1 - side));
            check.due("clicks", 55, house.trial(side));
            check.due("clicks for the other one", 0, house.trial(1 - side));
            check.due("sure", 1, house.trial(2));
            check.due("leads", side, house.trial(3));
        }
    }

    private static void fiftyFiveForBoth(Check check) {
        for (int forA = 0; forA <= 55; forA++) {
            FoundFirst house = upAndDown(2);
            house.mix(0, 0, 1, 1);
            for (int i = 0; i < 55; i++) {
                house.click(i < forA ? 0 : 1);
            }
            check.none("click 56 of a, " + forA + " being its own", house.click(0));
            check.none("click 56 of b, " + forA + " being a's", house.click(1));
            check.due("trial(0)", forA, house.trial(0));
            check.due("trial(1)", 55 - forA, house.trial(1));
            check.due("trial(2)", forA <= 19 || forA >= 36 ? 1 : 0, house.trial(2));
            check.due("trial(3)", forA < 28 ? 1 : 0, house.trial(3));
        }
    }

    private static FoundFirst withClicks(int clicks) {
        FoundFirst house = upAndDown(8);
        house.keep();
        house.mix(0, 0, 1, 1);
        for (int i = 0; i < clicks; i++) {
            house.click(i % 2);
        }
        return house;
    }

    private static void otherVersions(Check check) {
        check.promise("23 click: 0 again by mixing other VERSIONS");
        int[][] others = {{1, 0}, {0, 0}, {1, 1}, {0, 2}, {2, 1}, {2, 2}};
        for (int[] versions : others) {
            for (int query = 0; query < 2; query++) {
                FoundFirst house = withClicks(55);
                house.mix(query, versions[0], versions[1], 1);
                check.due("trial(0)", 0, house.trial(0));
                check.due("trial(1)", 0, house.trial(1));
                check.due("trial(2)", 0, house.trial(2));
                check.none("trial(3)", house.trial(3));
                check.due("click(0)", query == 0 ? 1 : -1, house.click(0));
                house.mix(0, 0, 1, 1);
                check.due("the first ones are others by now", 0, house.trial(0));
                check.due("click(1)", 1, house.click(1));
            }
        }
    }

    private static void sameVersions(Check check) {
        check.promise("23 click: by the same ones it goes on");
        FoundFirst house = withClicks(5);
        house.mix(0, 0, 1, 0);
        check.due("by other bits, of b", 3, house.click(0));
        check.due("by other bits, of a", 4, house.click(1));
        house.mix(1, 0, 1, 0);
        check.due("by a query without finds", 4, house.trial(0));
        house.weight(3, 9);
        house.keep();
        house.back(0);
        house.rule(0, 7, 1);
        house.mix(0, 0, 1, 1);
        check.due("after other calls", 5, house.click(0));
        check.none("a refused mix", house.mix(0, 0, 9, 1));
        check.none("a refused mix", house.mix(9, 1, 0, 1));
        check.due("after refused ones", 6, house.click(0));
        FoundFirst full = withClicks(55);
        check.due("by the same ones", 6, full.mix(0, 0, 1, 0));
        check.none("there were 55 still", full.click(0));
        check.due("trial(0)", 28, full.trial(0));
        check.due("trial(1)", 27, full.trial(1));
        FoundFirst last = withClicks(54);
        last.mix(0, 0, 1, 0);
        check.due("the 55th in the next list", 28, last.click(0));
        check.none("the 56th", last.click(0));
    }

    private static void trialAtFirst(Check check) {
        check.promise("24 trial: without clicks");
        for (FoundFirst house : new FoundFirst[] {new FoundFirst(), upAndDown(3), withClicks(0)}) {
            check.due("trial(0)", 0, house.trial(0));
            check.due("trial(1)", 0, house.trial(1));
            check.due("trial(2)", 0, house.trial(2));
            check.none("trial(3)", house.trial(3));
            check.none("trial(4)", house.trial(4));
            check.none("trial(-1)", house.trial(-1));
        }
    }

    /** All clicks of one side come before those of the other, so that every share is seen. */
    private static void trialBySides(Check check) {
        check.promise("24 trial: whether it is SURE; the one that leads");
        for (int first = 0; first < 2; first++) {
            for (int ahead = 0; ahead <= 55; ahead += 5) {
                FoundFirst house = withClicks(0);
                for (int i = 0; i < 55; i++) {
                    house.click(i < ahead ? first : 1 - first);
                    int forA = house.trial(0);
                    int forB = house.trial(1);
                    check.due("clicks together", i + 1, forA + forB);
                    check.due("trial(2)", MixingTest.isSure(forA, i + 1) ? 1 : 0, house.trial(2));
                    check.due("trial(3)", forA == forB ? -1 : forA > forB ? 0 : 1, house.trial(3));
                }
            }
        }
    }

    private static void justHalf(Check check) {
        check.promise("Terms 4: never if it is just half");
        FoundFirst house = new FoundFirst();
        for (int half = 0; 2 * half <= 55; half++) {
            check.no("sure(" + half + ", " + 2 * half + ")", house.sure(half, 2 * half));
        }
    }

    /** The sign test's table for five of a hundred on both sides, as it is printed. */
    private static void leastThatIsSure(Check check) {
        check.promise("Terms 4: SURE by n - x of the printed table; n is at most 55");
        int[][] table = {{6, 0}, {7, 0}, {8, 0}, {9, 1}, {10, 1}, {11, 1}, {12, 2}, {13, 2}, {14, 2}, {15, 3},
            {16, 3}, {17, 4}, {18, 4}, {19, 4}, {20, 5}, {21, 5}, {22, 5}, {23, 6}, {24, 6}, {25, 7},
            {30, 9}, {35, 11}, {40, 13}, {45, 15}, {50, 17}, {55, 19}};
        FoundFirst house = new FoundFirst();
        for (int[] row : table) {
            int n = row[0];
            int least = n - row[1];
            check.yes("sure(" + least + ", " + n + ")", house.sure(least, n));
            check.no("sure(" + (least - 1) + ", " + n + ")", house.sure(least - 1, n));
            check.yes("sure(" + row[1] + ", " + n + ")", house.sure(row[1], n));
            check.no("sure(" + (row[1] + 1) + ", " + n + ")", house.sure(row[1] + 1, n));
        }
        for (int n = 0; n <= 5; n++) {
            for (int x = 0; x <= n; x++) {
                check.no("sure(" + x + ", " + n + ")", house.sure(x, n));
            }
        }
        check.yes("sure(55, 55)", house.sure(55, 55));
        check.yes("sure(0, 55)", house.sure(0, 55));
        check.no("sure(56, 56)", house.sure(56, 56));
        check.no("sure(0, 56)", house.sure(0, 56));
        check.no("sure(56, 55)", house.sure(56, 55));
        check.no("sure(-1, 55)", house.sure(-1, 55));
        check.no("sure(0, -1)", house.sure(0, -1));
        check.no("sure(-1, -1)", house.sure(-1, -1));
    }

    private static void lessThanHalfAlike(Check check) {
        check.promise("Terms 4: if x is less than half, by n - x alike");
        for (int n = 0; n <= 55; n++) {
            FoundFirst house = new FoundFirst();
            boolean before = false;
            for (int x = (n + 1) / 2; x <= n; x++) {
                boolean is = house.sure(x, n);
                check.due("sure(" + (n - x) + ", " + n + ")", is ? 1 : 0, house.sure(n - x, n) ? 1 : 0);
                check.yes("sure with more, too", is || !before);
                before = is;
            }
        }
    }
}
