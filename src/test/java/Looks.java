import java.util.ArrayList;
import java.util.List;
import java.util.function.Function;
import java.util.function.Supplier;

/**
 * Everything that can be asked of a house. It is asked in parts, each of a house of its own, since an
 * object is for 512 calls, and since some of it (how much room is left) can only be seen by filling it.
 */
final class Looks {
    private static final List<Function<FoundFirst, List<Integer>>> PARTS = List.of(
            Looks::orders, house -> ofAllPages(house, 5), house -> ofAllPages(house, 7),
            house -> ofAllPages(house, 8), Looks::marks, Looks::weightsAndList, Looks::versions,
            Looks::goingOn, Looks::room, Looks::rules, Looks::roomForRules,
            house -> image(house, 0), house -> image(house, 1), house -> image(house, 2));

    private Looks() {
    }

    static List<List<Integer>> at(Supplier<FoundFirst> made) {
        List<List<Integer>> seen = new ArrayList<>();
        for (Function<FoundFirst, List<Integer>> part : PARTS) {
            seen.add(part.apply(made.get()));
        }
        return seen;
    }

    private static List<Integer> orders(FoundFirst house) {
        List<Integer> seen = new ArrayList<>();
        for (int q = 0; q < 12; q++) {
            int finds = house.finds(q);
            seen.add(finds);
            seen.add(house.worth(q));
            for (int k = 0; k < finds; k++) {
                seen.add(house.place(q, k));
            }
        }
        return seen;
    }

    private static List<Integer> ofAllPages(FoundFirst house, int what) {
        List<Integer> seen = new ArrayList<>();
        for (int q = 0; q < 12; q++) {
            for (int p = 0; p < 24; p++) {
                seen.add(house.why(q, p, what));
            }
        }
        return seen;
    }

    /** Each mark by itself, of the pages and queries that all houses have; of others by their score. */
    private static List<Integer> marks(FoundFirst house) {
        List<Integer> seen = new ArrayList<>();
        for (int q = 0; q < 4; q++) {
            for (int p = 0; p < 9; p++) {
                for (int what = 0; what < 5; what++) {
                    seen.add(house.why(q, p, what));
                }
            }
        }
        return seen;
    }

    private static List<Integer> weightsAndList(FoundFirst house) {
        List<Integer> seen = new ArrayList<>();
        addWeights(seen, house);
        seen.add(house.all(false));
        seen.add(house.all(true));
        for (int k = 0; k < 6; k++) {
            seen.add(house.mixed(k, 0));
            seen.add(house.mixed(k, 1));
        }
        addTrial(seen, house);
        return seen;
    }

    private static List<Integer> versions(FoundFirst house) {
        List<Integer> seen = new ArrayList<>();
        for (int version = 0; version < 30; version++) {
            seen.add(house.back(version) ? 1 : 0);
            addWeights(seen, house);
        }
        return seen;
    }

    /** Whether clicks are of versions 0 and 1, what a click adds, and what a step makes. */
    private static List<Integer> goingOn(FoundFirst house) {
        List<Integer> seen = new ArrayList<>();
        seen.add(house.click(0));
        seen.add(house.mix(0, 0, 1, 1));
        seen.add(house.click(0));
        addTrial(seen, house);
        seen.add(house.step());
        addWeights(seen, house);
        return seen;
    }

    private static List<Integer> room(FoundFirst house) {
        List<Integer> seen = new ArrayList<>();
        for (int p = 0; p < 24; p++) {
            seen.add(house.word(p, 0, 0));
            seen.add(house.word(p, 1, 0));
        }
        seen.add(house.page(0, 0, 0));
        seen.add(house.query(1, false));
        seen.add(house.keep());
        for (int q = 0; q < 12; q++) {
            seen.add(house.finds(q));
            seen.add(house.hold(q, true) ? 1 : 0);
        }
        return seen;
    }

    /** Rules of pages that are no finds, too, which nothing else shows. */
    private static List<Integer> rules(FoundFirst house) {
        List<Integer> seen = new ArrayList<>();
        for (int q = 0; q < 12; q++) {
            for (int p = 0; p < 24; p++) {
                seen.add(house.rule(q, p, 0) ? 1 : 0);
            }
        }
        return seen;
    }

    private static List<Integer> roomForRules(FoundFirst house) {
        List<Integer> seen = new ArrayList<>();
        for (int q = 0; q < 12; q++) {
            for (int p = 0; p < 10; p++) {
                seen.add(house.rule(q, p, 2) ? 1 : 0);
            }
        }
        return seen;
    }

    private static List<Integer> image(FoundFirst house, int k) {
        List<Integer> seen = new ArrayList<>();
        seen.add(house.again(k) ? 1 : 0);
        seen.addAll(orders(house));
        seen.addAll(weightsAndList(house));
        return seen;
    }

    private static void addWeights(List<Integer> seen, FoundFirst house) {
        for (int mark = 0; mark < 5; mark++) {
            seen.add(house.now(mark));
        }
    }

    private static void addTrial(List<Integer> seen, FoundFirst house) {
        for (int what = 0; what < 4; what++) {
            seen.add(house.trial(what));
        }
    }
}
