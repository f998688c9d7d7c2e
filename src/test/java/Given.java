/** Houses that several tests start from. */
final class Given {
    static final int[] WRONG = {-1, Integer.MIN_VALUE, Integer.MAX_VALUE};

    private Given() {
    }

    static void words(FoundFirst house, int page, int field, int... words) {
        for (int word : words) {
            house.word(page, field, word);
        }
    }

    /** Pages of the kinds, each with word 0 in its title; page i's age makes fresh marks fall. */
    static FoundFirst pagesByAge(int[] kinds, int[] ages) {
        FoundFirst house = new FoundFirst();
        for (int i = 0; i < kinds.length; i++) {
            house.page(kinds[i], ages[i], 0);
            house.word(i, 0, 0);
        }
        house.query(1, false);
        return house;
    }

    /** Two finds that fresh and seen put the other way round; page 1 is graded. */
    static FoundFirst freshAgainstSeen() {
        FoundFirst house = new FoundFirst();
        house.page(0, 0, 0);
        house.page(1, 100, 1000);
        house.word(0, 0, 0);
        house.word(1, 0, 0);
        house.query(1, false);
        house.grade(0, 1, 3);
        return house;
    }

    static void orderIs(Check check, FoundFirst house, int query, int... pages) {
        for (int k = 0; k < pages.length; k++) {
            check.due("place(" + query + ", " + k + ")", pages[k], house.place(query, k));
            check.due("why(" + query + ", " + pages[k] + ", 6)", k, house.why(query, pages[k], 6));
        }
        check.none("place(" + query + ", " + pages.length + ")", house.place(query, pages.length));
    }

    static void weightsAre(Check check, FoundFirst house, int... values) {
        for (int mark = 0; mark < values.length; mark++) {
            check.due("now(" + mark + ")", values[mark], house.now(mark));
        }
    }
}
