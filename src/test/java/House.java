import java.util.function.Consumer;
import java.util.function.Supplier;

/** A way to make a house again and again just alike, and how much of everything it has. */
record House(String name, int pages, int queries, int versions, int places, Supplier<FoundFirst> made) {

    static House fresh() {
        return new House("a new object", 0, 0, 0, 0, FoundFirst::new);
    }

    /** Some of everything: rules, grades, a list with clicks, images 0 and 2 but not 1. */
    static House ordinary() {
        return new House("an ordinary house", 5, 3, 2, 4, House::makeOrdinary);
    }

    static House withAllPages() {
        return ordinary().and("24 pages", 24, 3, 2, house -> {
            for (int p = 5; p < 24; p++) {
                house.page(p % 4, p, p * 10);
                house.word(p, p % 2, 1);
            }
        });
    }

    /** Both fields of the first page and of the last have ten words. */
    static House withAllWords() {
        return ordinary().and("10 words in a field", 5, 3, 2, house -> {
            for (int i = 0; i < 10; i++) {
                house.word(0, 0, i);
                house.word(0, 1, i);
                house.word(4, 0, i);
                house.word(4, 1, i);
            }
        });
    }

    static House withAllQueries() {
        return ordinary().and("12 queries", 5, 12, 2, house -> {
            for (int q = 3; q < 12; q++) {
                house.query(1 + q % 3, false);
            }
        });
    }

    /** Query 4 has no rules, so that there is one to pin and to sink beyond the twenty. */
    static House withAllRules() {
        return ordinary().and("20 pinned or sunk", 8, 5, 2, house -> {
            for (int p = 5; p < 8; p++) {
                house.page(p % 4, p, p);
                house.word(p, 0, 1);
            }
            house.query(2, false);
            house.query(2, false);
            for (int p = 0; p < 8; p++) {
                house.rule(2, p, 1 + p % 2);
                house.rule(3, p, 2 - p % 2);
            }
        });
    }

    static House withAllVersions() {
        return ordinary().and("30 versions", 5, 3, 30, house -> {
            for (int version = 2; version < 30; version++) {
                house.weight(version % 5, version % 21);
                house.keep();
            }
        });
    }

    static House withAllClicks() {
        return ordinary().and("55 clicks", 5, 3, 2, house -> {
            for (int i = 3; i < 55; i++) {
                house.click(i % 4);
            }
        });
    }

    static House withAnEmptyList() {
        House like = ordinary().and("an empty list", 5, 3, 2, house -> house.mix(2, 0, 1, 1));
        return new House(like.name, like.pages, like.queries, like.versions, 0, like.made);
    }

    private House and(String what, int pages, int queries, int versions, Consumer<FoundFirst> more) {
        return new House("a house with " + what, pages, queries, versions, places, () -> after(more));
    }

    FoundFirst after(Consumer<FoundFirst> more) {
        FoundFirst house = made.get();
        more.accept(house);
        return house;
    }

    private static FoundFirst makeOrdinary() {
        FoundFirst house = new FoundFirst();
        house.weight(1, 3);
        house.image(2);
        house.page(0, 50, 9);
        house.page(0, 100, 0);
        house.page(0, 0, 1000);
        house.page(1, 5, 10);
        house.page(3, 77, 123);
        Given.words(house, 0, 0, 1);
        Given.words(house, 0, 1, 0, 5, 1);
        Given.words(house, 1, 1, 1, 0);
        Given.words(house, 2, 0, 1, 0);
        Given.words(house, 3, 0, 1);
        Given.words(house, 4, 0, 0);
        Given.words(house, 4, 1, 63, 1, 32);
        house.query(3, false);
        house.query(2, false);
        house.query(Integer.MIN_VALUE, false);
        house.hold(1, true);
        house.rule(0, 1, 1);
        house.rule(0, 0, 2);
        house.rule(1, 3, 1);
        house.rule(1, 4, 2);
        house.grade(0, 4, 3);
        house.grade(0, 2, 1);
        house.grade(1, 0, 2);
        house.keep();
        house.weight(3, 0);
        house.weight(0, 7);
        house.keep();
        house.image(0);
        house.weight(4, 2);
        house.mix(0, 0, 1, 1);
        house.click(0);
        house.click(1);
        house.click(1);
        return house;
    }
}
