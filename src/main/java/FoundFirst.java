import java.util.Arrays;

/** A search house whose order of finds is tuned against what people marked. */
public final class FoundFirst {
    public static final int NONE = -1;

    private static final int MOST_PAGES = 24;
    private static final int KINDS = 4;
    private static final int OLDEST = 100;
    private static final int MOST_VISITS = 1000;
    private static final int FIELDS = 2;
    private static final int TITLE = 0;
    private static final int BODY = 1;
    private static final int MOST_WORDS = 10;
    private static final int WORDS = 64;
    private static final int HALF_OF_WORDS = 32;
    private static final int MOST_QUERIES = 12;
    private static final int MOST_ASKED = 3;
    private static final int MARKS = 5;
    private static final int WEIGHT_VALUES = 21;
    private static final int MOST_GRADE = 3;
    private static final int MOST_RULES = 20;
    private static final int MOST_VERSIONS = 30;
    private static final int FREE = 0;
    private static final int PINNED = 1;
    private static final int SUNK = 2;
    private static final int LATE = 3;
    private static final int EARLY_OF_A_KIND = 2;
    private static final int PLACES_OF_WORTH = 5;
    private static final int WORTH_OF_FIRST = 60;
    private static final int MOST_MIXED = 6;
    private static final int MOST_CLICKS = 55;
    private static final int IMAGES = 3;

    private final Told told;
    private final Told[] images;
    private final Ranking ranking;
    private final int[] tried;
    private final int[] sums;
    private final int[] ordersOfBoth;

    public FoundFirst() {
        told = new Told();
        images = new Told[IMAGES];
        ranking = new Ranking();
        tried = new int[MARKS];
        sums = new int[WEIGHT_VALUES * WEIGHT_VALUES];
        ordersOfBoth = new int[2 * MOST_PAGES];
    }

    public int page(int kind, int age, int visits) {
        if (kind < 0 || kind >= KINDS || !areNumbersOfPage(age, visits)) {
            return NONE;
        }
        return told.pages.addPage(kind, age, visits);
    }

    public int word(int page, int field, int word) {
        if (!told.pages.has(page) || field < 0 || field >= FIELDS || word < 0 || word >= WORDS) {
            return NONE;
        }
        return told.pages.addWord(page, field, word);
    }

    public boolean renew(int page, int age, int visits) {
        if (!told.pages.has(page) || !areNumbersOfPage(age, visits)) {
            return false;
        }
        told.pages.startOver(page, age, visits);
        told.queries.forgetGrades(page);
        told.rules.forgetPage(page);
        return true;
    }

    public int query(int bits, boolean high) {
        int asked = Integer.bitCount(bits);
        if (asked < 1 || asked > MOST_ASKED) {
            return NONE;
        }
        long low = bits & 0xFFFFFFFFL;
        return told.queries.addQuery(high ? low << HALF_OF_WORDS : low);
    }

    public boolean hold(int query, boolean is) {
        if (!told.queries.has(query) || told.queries.isHeld(query) == is) {
            return false;
        }
        told.queries.turnHeld(query);
        return true;
    }

    public boolean weight(int mark, int value) {
        if (!isMark(mark) || !isWeight(value)) {
            return false;
        }
        told.weights.current[mark] = value;
        return true;
    }

    public boolean rule(int query, int page, int how) {
        if (!areBoth(query, page) || how < FREE || how > SUNK) {
            return false;
        }
        Rules rules = told.rules;
        int at = rules.indexOf(query, page);
        int was = at == NONE ? FREE : rules.how[at];
        if (how == was && how != PINNED) {
            return false;
        }
        // A page that has a rule already only changes it, so the limit is for new ones.
        if (at == NONE && rules.count >= MOST_RULES) {
            return false;
        }
        if (at != NONE) {
            rules.dropAt(at);
        }
        if (how != FREE) {
            rules.append(query, page, how);
        }
        return true;
    }

    public boolean grade(int query, int page, int grade) {
        if (!areBoth(query, page) || grade < 0 || grade > MOST_GRADE) {
            return false;
        }
        told.queries.grades[query * MOST_PAGES + page] = grade;
        return true;
    }

    public int finds(int query) {
        if (!told.queries.has(query)) {
            return NONE;
        }
        ranking.gather(told, query);
        return ranking.count;
    }

    public int place(int query, int k) {
        if (!told.queries.has(query)) {
            return NONE;
        }
        rankNow(query);
        return k >= 0 && k < ranking.count ? ranking.order[k] : NONE;
    }

    public int why(int query, int page, int what) {
        if (!areBoth(query, page)) {
            return NONE;
        }
        if (what == 8) {
            return told.queries.grades[query * MOST_PAGES + page];
        }
        rankNow(query);
        if (ranking.standing[page] == NONE) {
            return NONE;
        }
        if (isMark(what)) {
            return ranking.marks[page * MARKS + what];
        }
        switch (what) {
            case 5:
                return ranking.scores[page];
            case 6:
                return ranking.placeOf(page);
            case 7:
                return ranking.standing[page];
            default:
                return NONE;
        }
    }

    public int worth(int query) {
        if (!told.queries.has(query)) {
            return NONE;
        }
        rankNow(query);
        return ranking.worthByGrades();
    }

    public int all(boolean held) {
        int sum = 0;
        for (int q = 0; q < told.queries.count; q++) {
            if (told.queries.isHeld(q) == held) {
                rankNow(q);
                sum += ranking.worthByGrades();
            }
        }
        return sum;
    }

    public int tune(int a, int b) {
        if (!isMark(a) || !isMark(b) || a == b) {
            return NONE;
        }
        Arrays.fill(sums, 0);
        for (int q = 0; q < told.queries.count; q++) {
            if (!told.queries.isHeld(q)) {
                addWorthOfPairs(q, a, b);
            }
        }
        int best = 0;
        for (int i = 1; i < sums.length; i++) {
            if (sums[i] > sums[best]) {
                best = i;
            }
        }
        told.weights.current[a] = best / WEIGHT_VALUES;
        told.weights.current[b] = best % WEIGHT_VALUES;
        return sums[best];
    }

    public int step() {
        Arrays.fill(sums, 0);
        for (int q = 0; q < told.queries.count; q++) {
            if (!told.queries.isHeld(q)) {
                addWorthOfChanges(q);
            }
        }
        int most = all(false);
        int best = NONE;
        for (int change = 0; change < 2 * MARKS; change++) {
            if (isWeight(valueAfter(change)) && sums[change] > most) {
                most = sums[change];
                best = change;
            }
        }
        if (best == NONE) {
            return NONE;
        }
        told.weights.current[best / 2] = valueAfter(best);
        return most;
    }

    public int keep() {
        return told.weights.addVersion();
    }

    public boolean back(int version) {
        if (!told.weights.hasVersion(version)) {
            return false;
        }
        System.arraycopy(told.weights.kept, version * MARKS, told.weights.current, 0, MARKS);
        return true;
    }

    public int lost(int a, int b, int what) {
        if (!told.weights.hasVersion(a) || !told.weights.hasVersion(b) || what < 0 || what > 2) {
            return NONE;
        }
        int losers = 0;
        int worst = NONE;
        int most = 0;
        for (int q = 0; q < told.queries.count; q++) {
            ranking.gather(told, q);
            int loss = worthByVersion(a) - worthByVersion(b);
            if (loss > 0) {
                losers++;
            }
            if (loss > most) {
                most = loss;
                worst = q;
            }
        }
        if (what == 0) {
            return losers;
        }
        return what == 1 ? worst : most;
    }

    public int now(int mark) {
        return isMark(mark) ? told.weights.current[mark] : NONE;
    }

    public int mix(int query, int a, int b, int bits) {
        Weights weights = told.weights;
        if (!told.queries.has(query) || !weights.hasVersion(a) || !weights.hasVersion(b)) {
            return NONE;
        }
        ranking.gather(told, query);
        ranking.arrange(weights.kept, a * MARKS);
        System.arraycopy(ranking.order, 0, ordersOfBoth, 0, ranking.count);
        ranking.arrange(weights.kept, b * MARKS);
        System.arraycopy(ranking.order, 0, ordersOfBoth, MOST_PAGES, ranking.count);
        told.trial.startList(a, b);
        fillList(ranking.count, bits);
        return told.trial.size;
    }

    public int mixed(int k, int what) {
        if (!told.trial.hasPlace(k)) {
            return NONE;
        }
        switch (what) {
            case 0:
                return told.trial.pages[k];
            case 1:
                return told.trial.sides[k];
            default:
                return NONE;
        }
    }

    public int click(int k) {
        Trial trial = told.trial;
        if (!trial.hasPlace(k) || trial.clicks[0] + trial.clicks[1] >= MOST_CLICKS) {
            return NONE;
        }
        int side = trial.sides[k];
        trial.clicks[side]++;
        return trial.clicks[side];
    }

    public int trial(int what) {
        int forA = told.trial.clicks[0];
        int forB = told.trial.clicks[1];
        switch (what) {
            case 0:
                return forA;
            case 1:
                return forB;
            case 2:
                return isMoreThanChance(forA, forA + forB) ? 1 : 0;
            case 3:
                return leaderOf(forA, forB);
            default:
                return NONE;
        }
    }

    public boolean sure(int x, int n) {
        if (n < 0 || n > MOST_CLICKS || x < 0 || x > n) {
            return false;
        }
        return isMoreThanChance(x, n);
    }

    public boolean image(int k) {
        if (k < 0 || k >= IMAGES) {
            return false;
        }
        if (images[k] == null) {
            images[k] = new Told();
        }
        images[k].copyFrom(told);
        return true;
    }

    public boolean again(int k) {
        if (k < 0 || k >= IMAGES || images[k] == null) {
            return false;
        }
        told.copyFrom(images[k]);
        return true;
    }

    private static boolean areNumbersOfPage(int age, int visits) {
        return age >= 0 && age <= OLDEST && visits >= 0 && visits <= MOST_VISITS;
    }

    private static boolean isMark(int mark) {
        return mark >= 0 && mark < MARKS;
    }

    private static boolean isWeight(int value) {
        return value >= 0 && value < WEIGHT_VALUES;
    }

    private boolean areBoth(int query, int page) {
        return told.queries.has(query) && told.pages.has(page);
    }

    private void rankNow(int query) {
        ranking.gather(told, query);
        ranking.arrange(told.weights.current, 0);
    }

    private int worthByVersion(int version) {
        ranking.arrange(told.weights.kept, version * MARKS);
        return ranking.worthByGrades();
    }

    /** The query's marks are gathered once for all pairs, since they do not hang on weights. */
    private void addWorthOfPairs(int query, int a, int b) {
        ranking.gather(told, query);
        if (!ranking.isGraded) {
            return;
        }
        System.arraycopy(told.weights.current, 0, tried, 0, MARKS);
        for (int i = 0; i < sums.length; i++) {
            tried[a] = i / WEIGHT_VALUES;
            tried[b] = i % WEIGHT_VALUES;
            ranking.arrange(tried, 0);
            sums[i] += ranking.worthByGrades();
        }
    }

    private void addWorthOfChanges(int query) {
        ranking.gather(told, query);
        if (!ranking.isGraded) {
            return;
        }
        System.arraycopy(told.weights.current, 0, tried, 0, MARKS);
        for (int change = 0; change < 2 * MARKS; change++) {
            int value = valueAfter(change);
            if (isWeight(value)) {
                int mark = change / 2;
                tried[mark] = value;
                ranking.arrange(tried, 0);
                sums[change] += ranking.worthByGrades();
                tried[mark] = told.weights.current[mark];
            }
        }
    }

    /** Changes are numbered so that the one that goes ahead of an equal one is the lesser. */
    private int valueAfter(int change) {
        int value = told.weights.current[change / 2];
        return change % 2 == 0 ? value - 1 : value + 1;
    }

    private void fillList(int finds, int bits) {
        int length = Math.min(MOST_MIXED, finds);
        int fromA = 0;
        int fromB = 0;
        int bitsUsed = 0;
        int taken = 0;
        for (int k = 0; k < length; k++) {
            boolean aTakes = fromA < fromB;
            if (fromA == fromB) {
                aTakes = (bits >>> bitsUsed & 1) == 1;
                bitsUsed++;
            }
            if (aTakes) {
                fromA++;
            } else {
                fromB++;
            }
            int side = aTakes ? 0 : 1;
            int page = firstNotTaken(side * MOST_PAGES, finds, taken);
            taken |= 1 << page;
            told.trial.append(page, side);
        }
    }

    private int firstNotTaken(int from, int finds, int taken) {
        int at = from;
        int last = from + finds - 1;
        while (at < last && (taken >>> ordersOfBoth[at] & 1) == 1) {
            at++;
        }
        return ordersOfBoth[at];
    }

    private static int leaderOf(int forA, int forB) {
        if (forA == forB) {
            return NONE;
        }
        return forA > forB ? 0 : 1;
    }

    /** x is 0 .. n and n at most 55, so that no sum here leaves a long. */
    private static boolean isMoreThanChance(int x, int n) {
        int greater = Math.max(x, n - x);
        if (greater == n - greater) {
            return false;
        }
        long rows = 0;
        long rowsOfSoMany = 1;
        for (int ones = n; ones >= greater; ones--) {
            rows += rowsOfSoMany;
            rowsOfSoMany = rowsOfSoMany * ones / (n - ones + 1);
        }
        // There are as many rows with n - x or fewer ones as with x or more.
        return 20 * (2 * rows) <= 1L << n;
    }

    /** All that an image holds. */
    private static final class Told {
        final Pages pages = new Pages();
        final Queries queries = new Queries();
        final Rules rules = new Rules();
        final Weights weights = new Weights();
        final Trial trial = new Trial();

        void copyFrom(Told other) {
            pages.copyFrom(other.pages);
            queries.copyFrom(other.queries);
            rules.copyFrom(other.rules);
            weights.copyFrom(other.weights);
            trial.copyFrom(other.trial);
        }
    }

    private static final class Pages {
        int count = 0;
        final int[] kinds = new int[MOST_PAGES];
        final int[] ages = new int[MOST_PAGES];
        final int[] visits = new int[MOST_PAGES];
        // A field stands at page * FIELDS + field, its words from MOST_WORDS times that on.
        final int[] lengths = new int[MOST_PAGES * FIELDS];
        final long[] wordBits = new long[MOST_PAGES * FIELDS];
        final int[] rows = new int[MOST_PAGES * FIELDS * MOST_WORDS];

        boolean has(int page) {
            return page >= 0 && page < count;
        }

        int addPage(int kind, int age, int seen) {
            if (count >= MOST_PAGES) {
                return NONE;
            }
            kinds[count] = kind;
            startOver(count, age, seen);
            count++;
            return count - 1;
        }

        void startOver(int page, int age, int seen) {
            ages[page] = age;
            visits[page] = seen;
            for (int field = 0; field < FIELDS; field++) {
                lengths[page * FIELDS + field] = 0;
                wordBits[page * FIELDS + field] = 0L;
            }
        }

        int addWord(int page, int field, int word) {
            int at = page * FIELDS + field;
            if (lengths[at] >= MOST_WORDS) {
                return NONE;
            }
            rows[at * MOST_WORDS + lengths[at]] = word;
            wordBits[at] |= 1L << word;
            lengths[at]++;
            return lengths[at];
        }

        boolean isFind(int page, long asked) {
            long inBoth = wordBits[page * FIELDS + TITLE] | wordBits[page * FIELDS + BODY];
            return (inBoth & asked) == asked;
        }

        int markOf(int page, long asked, int mark) {
            switch (mark) {
                case 0:
                    return Long.bitCount(wordBits[page * FIELDS + TITLE] & asked);
                case 1:
                    return Long.bitCount(wordBits[page * FIELDS + BODY] & asked);
                case 2:
                    return nearnessOf(page, asked);
                case 3:
                    return (OLDEST - ages[page]) / 10;
                default:
                    return digitsOf(visits[page]);
            }
        }

        private int nearnessOf(int page, long asked) {
            int body = page * FIELDS + BODY;
            int first = body * MOST_WORDS;
            int end = first + lengths[body];
            int shortest = MOST_WORDS;
            for (int from = first; from < end; from++) {
                shortest = Math.min(shortest, stretchWithAll(from, end, asked));
            }
            return MOST_WORDS - shortest;
        }

        /** A full field's length stands for none as well: both make a nearness of 0. */
        private int stretchWithAll(int from, int end, long asked) {
            long missing = asked;
            for (int at = from; at < end; at++) {
                missing &= ~(1L << rows[at]);
                if (missing == 0L) {
                    return at - from + 1;
                }
            }
            return MOST_WORDS;
        }

        private static int digitsOf(int number) {
            int digits = 0;
            for (int rest = number; rest > 0; rest /= 10) {
                digits++;
            }
            return digits;
        }

        void copyFrom(Pages other) {
            count = other.count;
            System.arraycopy(other.kinds, 0, kinds, 0, kinds.length);
            System.arraycopy(other.ages, 0, ages, 0, ages.length);
            System.arraycopy(other.visits, 0, visits, 0, visits.length);
            System.arraycopy(other.lengths, 0, lengths, 0, lengths.length);
            System.arraycopy(other.wordBits, 0, wordBits, 0, wordBits.length);
            System.arraycopy(other.rows, 0, rows, 0, rows.length);
        }
    }

    private static final class Queries {
        int count = 0;
        final long[] asked = new long[MOST_QUERIES];
        int heldBits = 0;
        // The grade of a page for a query stands at query * MOST_PAGES + page.
        final int[] grades = new int[MOST_QUERIES * MOST_PAGES];

        boolean has(int query) {
            return query >= 0 && query < count;
        }

        int addQuery(long words) {
            if (count >= MOST_QUERIES) {
                return NONE;
            }
            asked[count] = words;
            count++;
            return count - 1;
        }

        boolean isHeld(int query) {
            return (heldBits >>> query & 1) == 1;
        }

        void turnHeld(int query) {
            heldBits ^= 1 << query;
        }

        void forgetGrades(int page) {
            for (int q = 0; q < count; q++) {
                grades[q * MOST_PAGES + page] = 0;
            }
        }

        void copyFrom(Queries other) {
            count = other.count;
            heldBits = other.heldBits;
            System.arraycopy(other.asked, 0, asked, 0, asked.length);
            System.arraycopy(other.grades, 0, grades, 0, grades.length);
        }
    }

    /** Rules in the order in which they were told, which is the order of what is pinned. */
    private static final class Rules {
        int count = 0;
        final int[] queries = new int[MOST_RULES];
        final int[] pages = new int[MOST_RULES];
        final int[] how = new int[MOST_RULES];

        int indexOf(int query, int page) {
            for (int i = 0; i < count; i++) {
                if (queries[i] == query && pages[i] == page) {
                    return i;
                }
            }
            return NONE;
        }

        void append(int query, int page, int what) {
            queries[count] = query;
            pages[count] = page;
            how[count] = what;
            count++;
        }

        void dropAt(int index) {
            count--;
            for (int i = index; i < count; i++) {
                queries[i] = queries[i + 1];
                pages[i] = pages[i + 1];
                how[i] = how[i + 1];
            }
        }

        void forgetPage(int page) {
            for (int i = count - 1; i >= 0; i--) {
                if (pages[i] == page) {
                    dropAt(i);
                }
            }
        }

        void copyFrom(Rules other) {
            count = other.count;
            System.arraycopy(other.queries, 0, queries, 0, queries.length);
            System.arraycopy(other.pages, 0, pages, 0, pages.length);
            System.arraycopy(other.how, 0, how, 0, how.length);
        }
    }

    private static final class Weights {
        final int[] current = new int[MARKS];
        int versions = 0;
        // The weights of a version stand from version * MARKS on.
        final int[] kept = new int[MOST_VERSIONS * MARKS];

        Weights() {
            Arrays.fill(current, 1);
        }

        boolean hasVersion(int version) {
            return version >= 0 && version < versions;
        }

        int addVersion() {
            if (versions >= MOST_VERSIONS) {
                return NONE;
            }
            System.arraycopy(current, 0, kept, versions * MARKS, MARKS);
            versions++;
            return versions - 1;
        }

        void copyFrom(Weights other) {
            versions = other.versions;
            System.arraycopy(other.current, 0, current, 0, current.length);
            System.arraycopy(other.kept, 0, kept, 0, kept.length);
        }
    }

    /** The mixed list at hand, and the clicks for each side: 0 is a, 1 is b. */
    private static final class Trial {
        int size = 0;
        final int[] pages = new int[MOST_MIXED];
        final int[] sides = new int[MOST_MIXED];
        int versionA = NONE;
        int versionB = NONE;
        final int[] clicks = new int[2];

        boolean hasPlace(int k) {
            return k >= 0 && k < size;
        }

        void startList(int a, int b) {
            if (a != versionA || b != versionB) {
                Arrays.fill(clicks, 0);
            }
            versionA = a;
            versionB = b;
            size = 0;
        }

        void append(int page, int side) {
            pages[size] = page;
            sides[size] = side;
            size++;
        }

        void copyFrom(Trial other) {
            size = other.size;
            versionA = other.versionA;
            versionB = other.versionB;
            System.arraycopy(other.pages, 0, pages, 0, pages.length);
            System.arraycopy(other.sides, 0, sides, 0, sides.length);
            System.arraycopy(other.clicks, 0, clicks, 0, clicks.length);
        }
    }

    /** The order of one query's finds, in rows that every call uses again. */
    private static final class Ranking {
        int count = 0;
        // Without a grade no order is worth anything, so that none need be tried.
        boolean isGraded = false;
        private int pinned = 0;
        private int others = 0;
        final int[] order = new int[MOST_PAGES];
        // What is known of a find stands at its page's number; no find has the standing NONE.
        final int[] marks = new int[MOST_PAGES * MARKS];
        final int[] scores = new int[MOST_PAGES];
        final int[] standing = new int[MOST_PAGES];
        private final int[] kinds = new int[MOST_PAGES];
        private final int[] grades = new int[MOST_PAGES];
        private final int[] byScore = new int[MOST_PAGES];
        private final int[] ofKind = new int[KINDS];

        void gather(Told told, int query) {
            Arrays.fill(standing, NONE);
            count = 0;
            isGraded = false;
            long asked = told.queries.asked[query];
            for (int p = 0; p < told.pages.count; p++) {
                if (told.pages.isFind(p, asked)) {
                    gatherFind(told, query, p);
                }
            }
            pinned = 0;
            applyRules(told.rules, query);
            others = 0;
            for (int p = 0; p < told.pages.count; p++) {
                if (standing[p] == FREE || standing[p] == SUNK) {
                    byScore[others] = p;
                    others++;
                }
            }
        }

        private void gatherFind(Told told, int query, int page) {
            count++;
            standing[page] = FREE;
            kinds[page] = told.pages.kinds[page];
            grades[page] = told.queries.grades[query * MOST_PAGES + page];
            isGraded |= grades[page] > 0;
            for (int m = 0; m < MARKS; m++) {
                marks[page * MARKS + m] = told.pages.markOf(page, told.queries.asked[query], m);
            }
        }

        private void applyRules(Rules rules, int query) {
            for (int i = 0; i < rules.count; i++) {
                int page = rules.pages[i];
                if (rules.queries[i] == query && standing[page] != NONE) {
                    standing[page] = rules.how[i];
                    if (rules.how[i] == PINNED) {
                        order[pinned] = page;
                        pinned++;
                    }
                }
            }
        }

        /** Orders what was gathered by the weights that stand in the row from first on. */
        void arrange(int[] weights, int first) {
            for (int i = 0; i < pinned; i++) {
                scores[order[i]] = scoreOf(order[i], weights, first);
            }
            for (int i = 0; i < others; i++) {
                scores[byScore[i]] = scoreOf(byScore[i], weights, first);
            }
            sortByScore();
            tellLateOnes();
            int next = appendAll(FREE, pinned);
            next = appendAll(LATE, next);
            appendAll(SUNK, next);
        }

        private int scoreOf(int page, int[] weights, int first) {
            int sum = 0;
            for (int m = 0; m < MARKS; m++) {
                sum += marks[page * MARKS + m] * weights[first + m];
            }
            return sum;
        }

        /** By insertion, since like weights leave the row of the last time nearly sorted. */
        private void sortByScore() {
            for (int i = 1; i < others; i++) {
                int page = byScore[i];
                int at = i;
                while (at > 0 && isAhead(page, byScore[at - 1])) {
                    byScore[at] = byScore[at - 1];
                    at--;
                }
                byScore[at] = page;
            }
        }

        private boolean isAhead(int one, int other) {
            if (scores[one] != scores[other]) {
                return scores[one] > scores[other];
            }
            return one < other;
        }

        private void tellLateOnes() {
            Arrays.fill(ofKind, 0);
            for (int i = 0; i < others; i++) {
                int page = byScore[i];
                if (standing[page] != SUNK) {
                    int kind = kinds[page];
                    ofKind[kind]++;
                    standing[page] = ofKind[kind] > EARLY_OF_A_KIND ? LATE : FREE;
                }
            }
        }

        private int appendAll(int wanted, int from) {
            int next = from;
            for (int i = 0; i < others; i++) {
                if (standing[byScore[i]] == wanted) {
                    order[next] = byScore[i];
                    next++;
                }
            }
            return next;
        }

        int placeOf(int page) {
            for (int k = 0; k < count; k++) {
                if (order[k] == page) {
                    return k;
                }
            }
            return NONE;
        }

        int worthByGrades() {
            int sum = 0;
            int places = Math.min(PLACES_OF_WORTH, count);
            for (int k = 0; k < places; k++) {
                sum += WORTH_OF_FIRST * grades[order[k]] / (k + 1);
            }
            return sum;
        }
    }
}
