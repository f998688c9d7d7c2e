import java.util.Arrays;

/** Terms 1: pages, words, queries, finds, their marks and the score; each bound that is named there. */
final class FindTermsTest {
    private static final int WORD = 1;
    private static final int ASKED = 1 << WORD;

    private FindTermsTest() {
    }

    static void run(Check check) {
        kindsAreFour(check);
        everyAge(check);
        everyNumberOfVisits(check);
        everyWordInItsHalf(check);
        queriesAreOneToThreeWords(check);
        queryOfTheHighestBits(check);
        fieldsAreFullApart(check);
        eachWordInOneFieldAtLeast(check);
        nearByEveryStretch(check);
        nearAtTheRowsEnds(check);
        nearIsTheShortest(check);
        nearIsNothing(check);
        weightsAtTheirBounds(check);
    }

    private static void kindsAreFour(Check check) {
        check.promise("Terms 1: a KIND, 0 .. 3");
        FoundFirst house = Given.pagesByAge(new int[] {0, 1, 2, 3, 0, 1, 2, 3, 0, 1, 2, 3}, new int[12]);
        Given.orderIs(check, house, 0, 0, 1, 2, 3, 4, 5, 6, 7, 8, 9, 10, 11);
        for (int p = 0; p < 12; p++) {
            check.due("why(0, " + p + ", 7)", p < 8 ? 0 : 3, house.why(0, p, 7));
        }
    }

    private static void everyAge(Check check) {
        check.promise("Terms 1: an AGE, 0 .. 100; FRESH: (100 - AGE) / 10, cut");
        FoundFirst house = new FoundFirst();
        house.query(ASKED, false);
        house.page(0, 0, 0);
        for (int age = 0; age <= 100; age++) {
            check.yes("renew(0, " + age + ", 0)", house.renew(0, age, 0));
            house.word(0, 0, WORD);
            check.due("fresh at " + age, 10 - (age + 9) / 10, house.why(0, 0, 3));
        }
        for (int age = 0; age <= 100; age += 10) {
            int page = house.page(1, age, 0);
            house.word(page, 1, WORD);
            check.due("fresh of a page made at " + age, 10 - age / 10, house.why(0, page, 3));
        }
    }

    private static void everyNumberOfVisits(Check check) {
        check.promise("Terms 1: VISITS, 0 .. 1000; SEEN: how many digits, 0 if they are 0");
        FoundFirst house = new FoundFirst();
        for (int visits = 0; visits <= 1000; visits++) {
            if (visits % 150 == 0) {
                house = new FoundFirst();
                house.query(ASKED, false);
                house.page(0, 0, 1000);
            }
            check.yes("renew(0, 0, " + visits + ")", house.renew(0, 0, visits));
            house.word(0, 0, WORD);
            int digits = visits == 0 ? 0 : Integer.toString(visits).length();
            check.due("seen at " + visits, digits, house.why(0, 0, 4));
        }
    }

    private static void everyWordInItsHalf(Check check) {
        check.promise("Terms 1: WORDS are 0 .. 63; 5 query: the first 32 or the last 32");
        for (int word = 0; word < 64; word++) {
            FoundFirst house = new FoundFirst();
            int[] inTitle = {word, (word + 1) % 64, (word + 32) % 64, (word + 63) % 64};
            for (int p = 0; p < 5; p++) {
                house.page(0, 0, 0);
                if (p < 4) {
                    check.due("word(" + p + ", 0, " + inTitle[p] + ")", 1, house.word(p, 0, inTitle[p]));
                }
            }
            check.due("word(4, 1, " + word + ")", 1, house.word(4, 1, word));
            check.due("a query of word " + word, 0, house.query(1 << word % 32, word >= 32));
            Given.orderIs(check, house, 0, 4, 0);
        }
    }

    private static void queriesAreOneToThreeWords(Check check) {
        check.promise("Terms 1: QUERIES are 1 .. 3 words");
        for (int asked = 0; asked <= 32; asked++) {
            int lowest = (int) ((1L << asked) - 1);
            int highest = Integer.reverse(lowest);
            int due = asked >= 1 && asked <= 3 ? 0 : -1;
            check.due("the lowest " + asked, due, new FoundFirst().query(lowest, false));
            check.due("the highest " + asked, due, new FoundFirst().query(highest, false));
            check.due("the lowest " + asked + ", high", due, new FoundFirst().query(lowest, true));
            check.due("the highest " + asked + ", high", due, new FoundFirst().query(highest, true));
        }
    }

    private static void queryOfTheHighestBits(Check check) {
        check.promise("5 query: bits whose highest bit is 1, with high and without");
        FoundFirst house = new FoundFirst();
        for (int p = 0; p < 4; p++) {
            house.page(p, 0, 0);
        }
        Given.words(house, 0, 0, 31, 30, 0);
        Given.words(house, 1, 0, 63, 62, 32);
        Given.words(house, 2, 1, 31, 63);
        Given.words(house, 3, 0, 30, 0, 62, 32);
        check.due("query of 31, 30 and 0", 0, house.query(0xC0000001, false));
        check.due("query of 63, 62 and 32", 1, house.query(0xC0000001, true));
        check.due("query of 31", 2, house.query(Integer.MIN_VALUE, false));
        check.due("query of 63", 3, house.query(Integer.MIN_VALUE, true));
        Given.orderIs(check, house, 0, 0);
        Given.orderIs(check, house, 1, 1);
        Given.orderIs(check, house, 2, 2, 0);
        Given.orderIs(check, house, 3, 2, 1);
        check.due("all three in the title", 3, house.why(0, 0, 0));
        check.due("all three in the title, high", 3, house.why(1, 1, 0));
        check.due("near of 63", 9, house.why(3, 2, 2));
    }

    private static void fieldsAreFullApart(Check check) {
        check.promise("Terms 1: two FIELDS of words, up to 10 words each");
        for (int first = 0; first < 2; first++) {
            FoundFirst house = new FoundFirst();
            house.page(0, 0, 0);
            house.page(0, 0, 0);
            for (int field : new int[] {first, 1 - first}) {
                for (int i = 1; i <= 10; i++) {
                    check.due("word " + i + " of field " + field, i, house.word(0, field, 10 * field + i));
                }
                check.none("an eleventh of field " + field, house.word(0, field, 60));
            }
            check.due("the next page's title", 1, house.word(1, 0, WORD));
            check.due("the next page's body", 1, house.word(1, 1, WORD));
            house.query(1 << 10 | 1 << 20, false);
            house.query(1 << 28, true);
            Given.orderIs(check, house, 0, 0);
            check.due("the refused word is nowhere", 0, house.finds(1));
        }
    }

    /** Each of three words stands nowhere, in the title, in the body or in both: 64 pages. */
    private static void eachWordInOneFieldAtLeast(Check check) {
        check.promise("Terms 1: a FIND if each of its words is in one of both FIELDS (at least)");
        for (int spread = 0; spread < 64; spread++) {
            FoundFirst house = new FoundFirst();
            house.page(0, 0, 0);
            house.query(7, false);
            int[] inField = new int[2];
            boolean isFind = true;
            for (int word = 0; word < 3; word++) {
                int where = spread >> 2 * word & 3;
                isFind &= where != 0;
                for (int field = 0; field < 2; field++) {
                    for (int twice = 0; (where >> field & 1) == 1 && twice < 2; twice++) {
                        inField[field] += 1 - twice;
                        house.word(0, field, word);
                    }
                }
            }
            check.due("finds at " + spread, isFind ? 1 : 0, house.finds(0));
            check.due("in the title at " + spread, isFind ? inField[0] : -1, house.why(0, 0, 0));
            check.due("in the body at " + spread, isFind ? inField[1] : -1, house.why(0, 0, 1));
            check.due("grade at " + spread, 0, house.why(0, 0, 8));
        }
    }

    private static int near(int bits, int... body) {
        FoundFirst house = new FoundFirst();
        house.page(0, 0, 0);
        house.query(bits, false);
        for (int word = 0; word < 3; word++) {
            house.word(0, 0, word);
        }
        Given.words(house, 0, 1, body);
        return house.why(0, 0, 2);
    }

    private static void nearByEveryStretch(Check check) {
        check.promise("Terms 1: NEAR: 10 less the shortest stretch");
        for (int length = 2; length <= 10; length++) {
            int[] body = new int[length];
            Arrays.fill(body, 9);
            body[0] = 0;
            body[length - 1] = 1;
            check.due("two words in a stretch of " + length, 10 - length, near(3, body));
            body[0] = 1;
            body[length - 1] = 0;
            check.due("the other way round, of " + length, 10 - length, near(3, body));
            if (length > 2) {
                body[1] = 2;
                check.due("three words in a stretch of " + length, 10 - length, near(7, body));
            }
        }
        check.due("one word", 9, near(1, 0));
    }

    private static void nearAtTheRowsEnds(Check check) {
        for (int at = 0; at < 9; at++) {
            int[] body = {9, 9, 9, 9, 9, 9, 9, 9, 9, 9};
            body[at] = 1;
            check.due("one word, place " + at, 9, near(2, body));
            body[at + 1] = 0;
            check.due("two words from place " + at, 8, near(3, body));
        }
        check.due("one word at the end", 9, near(1, 9, 9, 9, 9, 9, 9, 9, 9, 9, 0));
        check.due("three at the end", 7, near(7, 0, 9, 9, 9, 9, 9, 9, 2, 1, 0));
    }

    private static void nearIsTheShortest(Check check) {
        check.due("the first is shorter", 8, near(3, 0, 1, 9, 0, 9, 1));
        check.due("the last is shorter", 8, near(3, 0, 9, 1, 9, 0, 1));
        check.due("the middle one is shorter", 7, near(7, 0, 9, 1, 2, 0, 9, 9, 1, 9, 2));
        check.due("words that come again", 7, near(7, 0, 0, 0, 1, 1, 2, 2, 1, 0, 2));
        check.due("only one word's last place counts", 6, near(7, 0, 0, 1, 1, 2, 2));
    }

    private static void nearIsNothing(Check check) {
        check.promise("Terms 1: NEAR: 0 if there is none or it is longer");
        check.due("no body", 0, near(1));
        check.due("a body without the word", 0, near(1, 1, 2, 9));
        check.due("a body without one of two", 0, near(3, 0, 2, 0));
        check.due("a body without one of three", 0, near(7, 0, 1, 0, 1, 0, 1, 0, 1, 0, 1));
        check.due("a stretch of ten", 0, near(3, 0, 9, 9, 9, 9, 9, 9, 9, 9, 1));
        check.due("a stretch of ten by three", 0, near(7, 0, 1, 1, 1, 1, 1, 1, 1, 1, 2));
        check.due("a stretch of nine", 1, near(3, 9, 0, 9, 9, 9, 9, 9, 9, 9, 1));
    }

    private static void weightsAtTheirBounds(Check check) {
        check.promise("Terms 1: WEIGHTS are 0 .. 20 each (1 at first); SCORE");
        FoundFirst house = new FoundFirst();
        house.page(0, 0, 1000);
        house.query(7, false);
        Given.words(house, 0, 0, 0, 1, 2);
        Given.words(house, 0, 1, 2, 1, 0);
        int[] marks = {3, 3, 7, 10, 4};
        check.due("score at first", 27, house.why(0, 0, 5));
        for (int mark = 0; mark < 5; mark++) {
            check.due("mark " + mark, marks[mark], house.why(0, 0, mark));
            check.yes("weight(" + mark + ", 0)", house.weight(mark, 0));
            check.due("score without mark " + mark, 27 - marks[mark], house.why(0, 0, 5));
            check.yes("weight(" + mark + ", 20)", house.weight(mark, 20));
            check.due("score by 20", 27 + 19 * marks[mark], house.why(0, 0, 5));
            check.yes("weight(" + mark + ", 1)", house.weight(mark, 1));
        }
        for (int mark = 0; mark < 5; mark++) {
            house.weight(mark, 20);
        }
        check.due("the greatest score", 540, house.why(0, 0, 5));
        for (int mark = 0; mark < 5; mark++) {
            house.weight(mark, 0);
        }
        check.due("the least score", 0, house.why(0, 0, 5));
        check.due("its place", 0, house.why(0, 0, 6));
    }
}
