import java.util.Random;

/** Runs of 512 calls by a fixed seed, each answer compared with the plain model's. */
final class RandomRunsTest {
    private static final int RUNS = 400;
    private static final int CALLS = 512;
    private static final int MOST_AT_ONCE = 54;
    private static final int PLAIN_TUNES = 2;
    private static final int[] FAR = {Integer.MIN_VALUE, Integer.MAX_VALUE, -2, 64, 100, 1001};

    private final Random random;
    private final FoundFirst house = new FoundFirst();
    private final PlainModel model = new PlainModel();
    private final Check check;
    private int tunesLeft = PLAIN_TUNES;
    private int calls = 0;

    private RandomRunsTest(Check check, int seed) {
        this.check = check;
        random = new Random(seed);
    }

    static void run(Check check) {
        int failedBefore = check.failed();
        for (int seed = 0; seed < RUNS && check.failed() == failedBefore; seed++) {
            check.promise("random run " + seed);
            RandomRunsTest run = new RandomRunsTest(check, seed);
            run.fill();
            while (run.calls <= CALLS - MOST_AT_ONCE && check.failed() == failedBefore) {
                run.anyCall();
            }
        }
    }

    private void fill() {
        int pages = 3 + random.nextInt(22);
        for (int i = 0; i < pages; i++) {
            page();
        }
        for (int i = 0; i < 120 - pages; i++) {
            word();
        }
        for (int i = 0; i < 8; i++) {
            query();
        }
        for (int i = 0; i < 24; i++) {
            grade();
        }
        due("keep()", model.keep(), house.keep());
        weight();
        weight();
        due("keep()", model.keep(), house.keep());
    }

    /** Mostly 0 .. limit - 1, at times just beside it, seldom far off. */
    private int about(int limit) {
        int die = random.nextInt(200);
        if (die == 0) {
            return FAR[random.nextInt(FAR.length)];
        }
        return die < 6 ? random.nextInt(limit + 2) - 1 : random.nextInt(limit);
    }

    private int bits() {
        int bits = 0;
        int words = random.nextInt(40) == 0 ? random.nextInt(5) : 1 + random.nextInt(2);
        for (int i = 0; i < words; i++) {
            bits |= 1 << (random.nextInt(10) == 0 ? 31 : random.nextInt(4));
        }
        return bits;
    }

    private int someWord() {
        int word = random.nextInt(12) == 0 ? 31 : random.nextInt(4);
        return random.nextInt(6) == 0 ? 32 + word : random.nextInt(100) == 0 ? about(64) : word;
    }

    private void due(String call, int want, int got) {
        calls++;
        check.due(call, want, got);
    }

    private void due(String call, boolean want, boolean got) {
        due(call, want ? 1 : 0, got ? 1 : 0);
    }

    private void page() {
        int kind = about(random.nextBoolean() ? 2 : 4);
        int age = about(101);
        int visits = random.nextBoolean() ? about(12) : about(1001);
        due("page(" + kind + ", " + age + ", " + visits + ")",
                model.page(kind, age, visits), house.page(kind, age, visits));
    }

    private void word() {
        int page = about(12);
        int field = about(2);
        int word = someWord();
        due("word(" + page + ", " + field + ", " + word + ")",
                model.word(page, field, word), house.word(page, field, word));
    }

    private void renew() {
        int page = about(24);
        int age = about(101);
        int visits = about(1001);
        due("renew(" + page + ", " + age + ", " + visits + ")",
                model.renew(page, age, visits), house.renew(page, age, visits));
    }

    private void query() {
        int bits = bits();
        boolean high = random.nextInt(6) == 0;
        due("query(" + bits + ", " + high + ")", model.query(bits, high), house.query(bits, high));
    }

    private void hold() {
        int query = about(12);
        boolean is = random.nextInt(3) == 0;
        due("hold(" + query + ", " + is + ")", model.hold(query, is), house.hold(query, is));
    }

    private void weight() {
        int mark = about(5);
        int value = random.nextBoolean() ? about(4) : about(21);
        due("weight(" + mark + ", " + value + ")", model.weight(mark, value), house.weight(mark, value));
    }

    private void rule() {
        int query = about(8);
        int page = about(12);
        int how = about(3);
        due("rule(" + query + ", " + page + ", " + how + ")",
                model.rule(query, page, how), house.rule(query, page, how));
    }

    private void grade() {
        int query = about(8);
        int page = about(12);
        int grade = about(4);
        due("grade(" + query + ", " + page + ", " + grade + ")",
                model.grade(query, page, grade), house.grade(query, page, grade));
    }

    private void place() {
        int query = about(8);
        int k = about(12);
        due("place(" + query + ", " + k + ")", model.place(query, k), house.place(query, k));
    }

    private void why() {
        int query = about(8);
        int page = about(12);
        int what = about(9);
        due("why(" + query + ", " + page + ", " + what + ")",
                model.why(query, page, what), house.why(query, page, what));
    }

    private void tune() {
        int a = about(5);
        int b = about(5);
        if (tunesLeft > 0) {
            tunesLeft--;
            due("tune(" + a + ", " + b + ")", model.tune(a, b), house.tune(a, b));
            weights();
        }
    }

    private void step() {
        due("step()", model.step(), house.step());
        weights();
    }

    private void weights() {
        for (int mark = 0; mark < 5; mark++) {
            due("now(" + mark + ")", model.now(mark), house.now(mark));
        }
    }

    private void lost() {
        int a = about(4);
        int b = about(4);
        int what = about(3);
        due("lost(" + a + ", " + b + ", " + what + ")", model.lost(a, b, what), house.lost(a, b, what));
    }

    private void mix() {
        int query = about(8);
        int a = about(3);
        int b = about(3);
        int bits = random.nextInt();
        due("mix(" + query + ", " + a + ", " + b + ", " + bits + ")",
                model.mix(query, a, b, bits), house.mix(query, a, b, bits));
        for (int k = 0; k < 7; k++) {
            due("mixed(" + k + ", 0)", model.mixed(k, 0), house.mixed(k, 0));
            due("mixed(" + k + ", 1)", model.mixed(k, 1), house.mixed(k, 1));
        }
    }

    private void clicks() {
        int k = about(6);
        int times = random.nextInt(30) == 0 ? 50 : 1;
        for (int i = 0; i < times; i++) {
            due("click(" + k + ")", model.click(k), house.click(k));
        }
        for (int what = 0; what < 4; what++) {
            due("trial(" + what + ")", model.trial(what), house.trial(what));
        }
    }

    private void images() {
        int k = about(3);
        if (random.nextBoolean()) {
            due("image(" + k + ")", model.image(k), house.image(k));
        } else {
            due("again(" + k + ")", model.again(k), house.again(k));
        }
    }

    private void small() {
        int x = about(12);
        boolean held = random.nextBoolean();
        switch (random.nextInt(8)) {
            case 0:
                due("finds(" + x + ")", model.finds(x), house.finds(x));
                break;
            case 1:
                due("worth(" + x + ")", model.worth(x), house.worth(x));
                break;
            case 2:
                due("all(" + held + ")", model.all(held), house.all(held));
                break;
            case 3:
                due("back(" + x + ")", model.back(x), house.back(x));
                break;
            case 4:
                due("now(" + x + ")", model.now(x), house.now(x));
                break;
            case 5:
                due("trial(" + x + ")", model.trial(x), house.trial(x));
                break;
            case 6:
                due("keep()", model.keep(), house.keep());
                break;
            default:
                due("mixed(0, " + x + ")", model.mixed(0, x), house.mixed(0, x));
                break;
        }
    }

    private void anyCall() {
        switch (random.nextInt(60)) {
            case 0: page(); break;
            case 1: renew(); break;
            case 2: query(); break;
            case 3: hold(); break;
            case 4: images(); break;
            case 5: tune(); break;
            case 6: step(); break;
            case 7: case 8: lost(); break;
            case 9: case 10: case 11: mix(); break;
            case 12: case 13: case 14: clicks(); break;
            case 15: case 16: case 17: weight(); break;
            case 18: case 19: case 20: case 21: case 22: word(); break;
            case 23: case 24: case 25: case 26: case 27: grade(); break;
            case 28: case 29: case 30: case 31: case 32: case 33: rule(); break;
            case 34: case 35: case 36: case 37: case 38: case 39: case 40: case 41: place(); break;
            case 42: case 43: case 44: case 45: case 46: case 47: case 48: case 49: why(); break;
            default: small(); break;
        }
    }
}
