import java.util.ArrayList;
import java.util.List;
import java.util.function.Consumer;
import java.util.function.Predicate;
import java.util.function.ToIntFunction;

/**
 * Every sentence of promises 2 to 27 that tells when a call is refused, for each of its arguments: just
 * outside its bounds and with the least and the greatest int, on a new object, on an ordinary one and on
 * ones that have all they can. None of them changes anything that can be asked.
 */
final class RefusalsTest {
    private static final int NONE = -1;

    private record Refused(String call, int due, ToIntFunction<FoundFirst> answer) {
    }

    private final House like;
    private final List<Refused> calls = new ArrayList<>();

    private RefusalsTest(House like) {
        this.like = like;
    }

    static void run(Check check) {
        refuse(check, House.fresh(), RefusalsTest::whatIsNotThereYet);
        refuse(check, House.ordinary(), RefusalsTest::whatIsSoAlready);
        refuse(check, House.withAllPages(), RefusalsTest::pageTwentyFive);
        refuse(check, House.withAllWords(), RefusalsTest::wordEleven);
        refuse(check, House.withAllQueries(), RefusalsTest::queryThirteen);
        refuse(check, House.withAllRules(), RefusalsTest::ruleTwentyOne);
        refuse(check, House.withAllVersions(), RefusalsTest::versionThirtyOne);
        refuse(check, House.withAllClicks(), RefusalsTest::clickFiftySix);
        refuse(check, House.withAnEmptyList(), RefusalsTest::whatIsSoAlready);
    }

    private static void refuse(Check check, House like, Consumer<RefusalsTest> further) {
        RefusalsTest test = new RefusalsTest(like);
        test.pagesAndWords();
        test.queriesAndWeights();
        test.rulesAndGrades();
        test.orders();
        test.tuning();
        test.mixing();
        test.clicks();
        test.images();
        further.accept(test);
        test.allAreRefusedAndChangeNothing(check);
    }

    private void allAreRefusedAndChangeNothing(Check check) {
        check.promise("refused on " + like.name());
        List<List<Integer>> before = Looks.at(like.made());
        for (Refused refused : calls) {
            check.due(refused.call, refused.due, refused.answer.applyAsInt(like.made().get()));
            List<List<Integer>> after = Looks.at(() -> like.after(refused.answer::applyAsInt));
            check.yes(refused.call + " changes nothing", after.equals(before));
        }
    }

    private void none(String call, ToIntFunction<FoundFirst> answer) {
        calls.add(new Refused(call, NONE, answer));
    }

    private void no(String call, Predicate<FoundFirst> answer) {
        calls.add(new Refused(call, 0, house -> answer.test(house) ? 1 : 0));
    }

    private static String text(String method, int... arguments) {
        StringBuilder text = new StringBuilder(method);
        for (int i = 0; i < arguments.length; i++) {
            text.append(i == 0 ? "(" : ", ").append(arguments[i]);
        }
        return text.append(")").toString();
    }

    /** What lies outside 0 .. limit - 1; shifts and products of some of these would be right ones. */
    private static int[] outside(int limit) {
        return new int[] {-1, limit, Integer.MIN_VALUE, Integer.MAX_VALUE, limit + 32, 1 << 30};
    }

    private void pagesAndWords() {
        for (int kind : outside(4)) {
            none(text("page", kind, 0, 0), house -> house.page(kind, 0, 0));
        }
        for (int page : outside(like.pages())) {
            none(text("word", page, 0, 0), house -> house.word(page, 0, 0));
            none(text("word", page, 1, 63), house -> house.word(page, 1, 63));
            no(text("renew", page, 0, 0), house -> house.renew(page, 0, 0));
            no(text("renew", page, 100, 1000), house -> house.renew(page, 100, 1000));
        }
        for (int age : outside(101)) {
            none(text("page", 0, age, 0), house -> house.page(0, age, 0));
            no(text("renew", 0, age, 0), house -> house.renew(0, age, 0));
        }
        for (int visits : outside(1001)) {
            none(text("page", 0, 0, visits), house -> house.page(0, 0, visits));
            no(text("renew", 0, 0, visits), house -> house.renew(0, 0, visits));
        }
        for (int field : outside(2)) {
            none(text("word", 1, field, 0), house -> house.word(1, field, 0));
        }
        for (int word : outside(64)) {
            none(text("word", 1, 0, word), house -> house.word(1, 0, word));
            none(text("word", 1, 1, word), house -> house.word(1, 1, word));
        }
    }

    private void queriesAndWeights() {
        int[] notOneToThree = {0, 15, 0xF0000000, 0xC0000003, 0x7FFFFFFF, -1, -2};
        for (int bits : notOneToThree) {
            none("query(" + bits + ", false)", house -> house.query(bits, false));
            none("query(" + bits + ", true)", house -> house.query(bits, true));
        }
        for (int query : outside(like.queries())) {
            no("hold(" + query + ", true)", house -> house.hold(query, true));
            no("hold(" + query + ", false)", house -> house.hold(query, false));
        }
        for (int mark : outside(5)) {
            no(text("weight", mark, 0), house -> house.weight(mark, 0));
            no(text("weight", mark, 20), house -> house.weight(mark, 20));
            none(text("now", mark), house -> house.now(mark));
        }
        for (int value : outside(21)) {
            for (int mark = 0; mark < 5; mark++) {
                int of = mark;
                no(text("weight", mark, value), house -> house.weight(of, value));
            }
        }
    }

    private void rulesAndGrades() {
        for (int query : outside(like.queries())) {
            for (int x = 0; x < 3; x++) {
                int how = x;
                no(text("rule", query, 0, how), house -> house.rule(query, 0, how));
                no(text("grade", query, 0, how), house -> house.grade(query, 0, how));
            }
        }
        for (int page : outside(like.pages())) {
            for (int x = 0; x < 3; x++) {
                int how = x;
                no(text("rule", 0, page, how), house -> house.rule(0, page, how));
                no(text("grade", 0, page, how), house -> house.grade(0, page, how));
            }
        }
        for (int how : outside(3)) {
            no(text("rule", 0, 0, how), house -> house.rule(0, 0, how));
            no(text("rule", 0, 2, how), house -> house.rule(0, 2, how));
        }
        for (int grade : outside(4)) {
            no(text("grade", 0, 0, grade), house -> house.grade(0, 0, grade));
        }
    }

    private void orders() {
        for (int query : outside(like.queries())) {
            none(text("finds", query), house -> house.finds(query));
            none(text("worth", query), house -> house.worth(query));
            none(text("place", query, 0), house -> house.place(query, 0));
            for (int x = 0; x < 9; x++) {
                int what = x;
                none(text("why", query, 0, what), house -> house.why(query, 0, what));
            }
        }
        for (int page : outside(like.pages())) {
            for (int x = 0; x < 9; x++) {
                int what = x;
                none(text("why", 0, page, what), house -> house.why(0, page, what));
            }
        }
        for (int what : outside(9)) {
            none(text("why", 0, 0, what), house -> house.why(0, 0, what));
        }
        int finds = like.made().get().finds(0);
        for (int k : outside(Math.max(0, finds))) {
            none(text("place", 0, k), house -> house.place(0, k));
        }
        for (int x = 0; x < 8; x++) {
            int what = x;
            none("of what is no find, " + text("why", 2, 0, what), house -> house.why(2, 0, what));
        }
        none("of a query without finds, place(2, 0)", house -> house.place(2, 0));
    }

    private void tuning() {
        for (int mark : outside(5)) {
            none(text("tune", mark, 0), house -> house.tune(mark, 0));
            none(text("tune", 4, mark), house -> house.tune(4, mark));
            none(text("tune", mark, mark), house -> house.tune(mark, mark));
        }
        for (int x = 0; x < 5; x++) {
            int mark = x;
            none(text("tune", mark, mark), house -> house.tune(mark, mark));
        }
        for (int version : outside(like.versions())) {
            no(text("back", version), house -> house.back(version));
            for (int x = 0; x < 3; x++) {
                int what = x;
                none(text("lost", version, 0, what), house -> house.lost(version, 0, what));
                none(text("lost", 0, version, what), house -> house.lost(0, version, what));
            }
        }
        for (int what : outside(3)) {
            none(text("lost", 0, 1, what), house -> house.lost(0, 1, what));
        }
    }

    private void mixing() {
        for (int query : outside(like.queries())) {
            none(text("mix", query, 0, 1, 5), house -> house.mix(query, 0, 1, 5));
        }
        for (int version : outside(like.versions())) {
            none(text("mix", 0, version, 0, 5), house -> house.mix(0, version, 0, 5));
            none(text("mix", 0, 1, version, -1), house -> house.mix(0, 1, version, -1));
            none(text("mix", 2, version, version, 0), house -> house.mix(2, version, version, 0));
        }
        for (int k : outside(like.places())) {
            none(text("mixed", k, 0), house -> house.mixed(k, 0));
            none(text("mixed", k, 1), house -> house.mixed(k, 1));
        }
        for (int what : outside(2)) {
            none(text("mixed", 0, what), house -> house.mixed(0, what));
        }
    }

    private void clicks() {
        for (int k : outside(like.places())) {
            none(text("click", k), house -> house.click(k));
        }
        for (int what : outside(4)) {
            none(text("trial", what), house -> house.trial(what));
        }
        for (int n : outside(56)) {
            no(text("sure", 0, n), house -> house.sure(0, n));
            no(text("sure", 55, n), house -> house.sure(55, n));
            no(text("sure", n, n), house -> house.sure(n, n));
        }
        for (int x : outside(56)) {
            no(text("sure", x, 55), house -> house.sure(x, 55));
        }
        for (int x : outside(1)) {
            no(text("sure", x, 0), house -> house.sure(x, 0));
        }
    }

    private void images() {
        for (int k : outside(3)) {
            no(text("image", k), house -> house.image(k));
            no(text("again", k), house -> house.again(k));
        }
        no("again(1), which was not taken", house -> house.again(1));
    }

    private void whatIsNotThereYet() {
        no("again(0), which was not taken", house -> house.again(0));
        no("again(2), which was not taken", house -> house.again(2));
        none("step(), there being nothing to gain", FoundFirst::step);
    }

    private void whatIsSoAlready() {
        no("hold(0, false), as it was", house -> house.hold(0, false));
        no("hold(1, true), as it was", house -> house.hold(1, true));
        no("rule(0, 0, 2), as it was", house -> house.rule(0, 0, 2));
        no("rule(0, 2, 0), as it was", house -> house.rule(0, 2, 0));
    }

    private void pageTwentyFive() {
        none("page(0, 0, 0), the 25th", house -> house.page(0, 0, 0));
        none("page(3, 100, 1000), the 25th", house -> house.page(3, 100, 1000));
    }

    private void wordEleven() {
        for (int x = 0; x < 64; x += 21) {
            int word = x;
            for (int page : new int[] {0, 4}) {
                none("the 11th, " + text("word", page, 0, word), house -> house.word(page, 0, word));
                none("the 11th, " + text("word", page, 1, word), house -> house.word(page, 1, word));
            }
        }
    }

    private void queryThirteen() {
        none("query(1, false), the 13th", house -> house.query(1, false));
        none("query(7, true), the 13th", house -> house.query(7, true));
        none("query of the highest bit, the 13th", house -> house.query(Integer.MIN_VALUE, true));
    }

    private void ruleTwentyOne() {
        for (int x = 0; x < 8; x++) {
            int page = x;
            no("the 21st, " + text("rule", 4, page, 1), house -> house.rule(4, page, 1));
            no("the 21st, " + text("rule", 4, page, 2), house -> house.rule(4, page, 2));
            no("as it was, " + text("rule", 4, page, 0), house -> house.rule(4, page, 0));
        }
        whatIsSoAlready();
    }

    private void versionThirtyOne() {
        none("keep(), the 31st", FoundFirst::keep);
    }

    private void clickFiftySix() {
        for (int x = 0; x < 4; x++) {
            int k = x;
            none("the 56th, " + text("click", k), house -> house.click(k));
        }
    }
}
