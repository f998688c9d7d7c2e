import java.util.ArrayList;
import java.util.Comparator;
import java.util.HashMap;
import java.util.HashSet;
import java.util.LinkedHashMap;
import java.util.List;
import java.util.Map;
import java.util.Set;

/** The document once more, as plainly as the Java library allows, to compare random runs with. */
final class PlainModel {
    private State told = new State();
    private final Map<Integer, State> images = new HashMap<>();

    private record Key(int query, int page) {
    }

    private static final class Page {
        int kind;
        int age;
        int visits;
        List<List<Integer>> fields = List.of(new ArrayList<>(), new ArrayList<>());

        Page copy() {
            Page copy = new Page();
            copy.kind = kind;
            copy.age = age;
            copy.visits = visits;
            copy.fields = List.of(new ArrayList<>(fields.get(0)), new ArrayList<>(fields.get(1)));
            return copy;
        }
    }

    private static final class State {
        List<Page> pages = new ArrayList<>();
        List<Set<Integer>> queries = new ArrayList<>();
        Set<Integer> held = new HashSet<>();
        Map<Key, Integer> rules = new LinkedHashMap<>();
        Map<Key, Integer> grades = new HashMap<>();
        List<Integer> weights = new ArrayList<>(List.of(1, 1, 1, 1, 1));
        List<List<Integer>> versions = new ArrayList<>();
        List<int[]> list = new ArrayList<>();
        List<Integer> mixedVersions = List.of();
        int[] clicks = new int[2];

        State copy() {
            State copy = new State();
            for (Page page : pages) {
                copy.pages.add(page.copy());
            }
            copy.queries.addAll(queries);
            copy.held.addAll(held);
            copy.rules.putAll(rules);
            copy.grades.putAll(grades);
            copy.weights = new ArrayList<>(weights);
            copy.versions.addAll(versions);
            copy.list.addAll(list);
            copy.mixedVersions = mixedVersions;
            copy.clicks = clicks.clone();
            return copy;
        }
    }

    private static boolean within(int value, int least, int most) {
        return least <= value && value <= most;
    }

    private boolean isPage(int page) {
        return within(page, 0, told.pages.size() - 1);
    }

    private boolean isQuery(int query) {
        return within(query, 0, told.queries.size() - 1);
    }

    private boolean isVersion(int version) {
        return within(version, 0, told.versions.size() - 1);
    }

    int page(int kind, int age, int visits) {
        if (told.pages.size() == 24 || !within(kind, 0, 3) || !within(age, 0, 100) || !within(visits, 0, 1000)) {
            return -1;
        }
        Page page = new Page();
        page.kind = kind;
        page.age = age;
        page.visits = visits;
        told.pages.add(page);
        return told.pages.size() - 1;
    }

    int word(int page, int field, int word) {
        if (!isPage(page) || !within(field, 0, 1) || !within(word, 0, 63)) {
            return -1;
        }
        List<Integer> row = told.pages.get(page).fields.get(field);
        if (row.size() == 10) {
            return -1;
        }
        row.add(word);
        return row.size();
    }

    boolean renew(int page, int age, int visits) {
        if (!isPage(page) || !within(age, 0, 100) || !within(visits, 0, 1000)) {
            return false;
        }
        Page renewed = new Page();
        renewed.kind = told.pages.get(page).kind;
        renewed.age = age;
        renewed.visits = visits;
        told.pages.set(page, renewed);
        told.rules.keySet().removeIf(key -> key.page() == page);
        told.grades.keySet().removeIf(key -> key.page() == page);
        return true;
    }

    int query(int bits, boolean high) {
        Set<Integer> words = new HashSet<>();
        for (int i = 0; i < 32; i++) {
            if ((bits >> i & 1) != 0) {
                words.add(high ? 32 + i : i);
            }
        }
        if (told.queries.size() == 12 || !within(words.size(), 1, 3)) {
            return -1;
        }
        told.queries.add(words);
        return told.queries.size() - 1;
    }

    boolean hold(int query, boolean is) {
        return isQuery(query) && (is ? told.held.add(query) : told.held.remove(query));
    }

    boolean weight(int mark, int value) {
        if (!within(mark, 0, 4) || !within(value, 0, 20)) {
            return false;
        }
        told.weights.set(mark, value);
        return true;
    }

    boolean rule(int query, int page, int how) {
        if (!isQuery(query) || !isPage(page) || !within(how, 0, 2)) {
            return false;
        }
        Key key = new Key(query, page);
        int was = told.rules.getOrDefault(key, 0);
        if (was == how && how != 1 || was == 0 && told.rules.size() == 20) {
            return false;
        }
        told.rules.remove(key);
        if (how != 0) {
            told.rules.put(key, how);
        }
        return true;
    }

    boolean grade(int query, int page, int grade) {
        if (!isQuery(query) || !isPage(page) || !within(grade, 0, 3)) {
            return false;
        }
        told.grades.put(new Key(query, page), grade);
        return true;
    }

    private boolean isFind(int query, int page) {
        Set<Integer> words = new HashSet<>(told.pages.get(page).fields.get(0));
        words.addAll(told.pages.get(page).fields.get(1));
        return words.containsAll(told.queries.get(query));
    }

    private int mark(int query, int page, int mark) {
        Page of = told.pages.get(page);
        Set<Integer> asked = told.queries.get(query);
        switch (mark) {
            case 0:
            case 1:
                return (int) asked.stream().filter(of.fields.get(mark)::contains).count();
            case 2:
                return near(of.fields.get(1), asked);
            case 3:
                return (100 - of.age) / 10;
            default:
                return of.visits == 0 ? 0 : String.valueOf(of.visits).length();
        }
    }

    private static int near(List<Integer> body, Set<Integer> asked) {
        for (int length = 1; length <= body.size(); length++) {
            for (int from = 0; from + length <= body.size(); from++) {
                if (body.subList(from, from + length).containsAll(asked)) {
                    return 10 - length;
                }
            }
        }
        return 0;
    }

    private int score(int query, int page, List<Integer> weights) {
        int sum = 0;
        for (int m = 0; m < 5; m++) {
            sum += weights.get(m) * mark(query, page, m);
        }
        return sum;
    }

    private int how(int query, int page) {
        return told.rules.getOrDefault(new Key(query, page), 0);
    }

    private List<Integer> byScore(int query, List<Integer> weights, int how) {
        Map<Integer, Integer> scores = new HashMap<>();
        for (int p = 0; p < told.pages.size(); p++) {
            if (isFind(query, p) && how(query, p) == how) {
                scores.put(p, score(query, p, weights));
            }
        }
        List<Integer> pages = new ArrayList<>(scores.keySet());
        pages.sort(Comparator.comparing((Integer p) -> -scores.get(p)).thenComparing(p -> p));
        return pages;
    }

    private List<Integer> late(int query, List<Integer> weights) {
        List<Integer> late = new ArrayList<>();
        List<Integer> others = byScore(query, weights, 0);
        for (int i = 0; i < others.size(); i++) {
            int kind = told.pages.get(others.get(i)).kind;
            long before = others.subList(0, i).stream().filter(p -> told.pages.get(p).kind == kind).count();
            if (before >= 2) {
                late.add(others.get(i));
            }
        }
        return late;
    }

    private List<Integer> order(int query, List<Integer> weights) {
        List<Integer> order = new ArrayList<>();
        told.rules.forEach((key, how) -> {
            if (key.query() == query && how == 1 && isFind(query, key.page())) {
                order.add(key.page());
            }
        });
        List<Integer> late = late(query, weights);
        List<Integer> early = byScore(query, weights, 0);
        early.removeAll(late);
        order.addAll(early);
        order.addAll(late);
        order.addAll(byScore(query, weights, 2));
        return order;
    }

    int finds(int query) {
        return isQuery(query) ? order(query, told.weights).size() : -1;
    }

    int place(int query, int k) {
        if (!isQuery(query)) {
            return -1;
        }
        List<Integer> order = order(query, told.weights);
        return within(k, 0, order.size() - 1) ? order.get(k) : -1;
    }

    int why(int query, int page, int what) {
        if (!isQuery(query) || !isPage(page)) {
            return -1;
        }
        if (what == 8) {
            return told.grades.getOrDefault(new Key(query, page), 0);
        }
        if (!isFind(query, page) || !within(what, 0, 7)) {
            return -1;
        }
        if (what < 5) {
            return mark(query, page, what);
        }
        if (what == 5) {
            return score(query, page, told.weights);
        }
        if (what == 6) {
            return order(query, told.weights).indexOf(page);
        }
        return late(query, told.weights).contains(page) ? 3 : how(query, page);
    }

    private int worthBy(int query, List<Integer> weights) {
        List<Integer> order = order(query, weights);
        int sum = 0;
        for (int place = 1; place <= 5 && place <= order.size(); place++) {
            sum += 60 * told.grades.getOrDefault(new Key(query, order.get(place - 1)), 0) / place;
        }
        return sum;
    }

    private int allBy(List<Integer> weights, boolean held) {
        int sum = 0;
        for (int q = 0; q < told.queries.size(); q++) {
            if (told.held.contains(q) == held) {
                sum += worthBy(q, weights);
            }
        }
        return sum;
    }

    int worth(int query) {
        return isQuery(query) ? worthBy(query, told.weights) : -1;
    }

    int all(boolean held) {
        return allBy(told.weights, held);
    }

    int tune(int a, int b) {
        if (!within(a, 0, 4) || !within(b, 0, 4) || a == b) {
            return -1;
        }
        int most = -1;
        List<Integer> best = told.weights;
        for (int first = 0; first <= 20; first++) {
            for (int second = 0; second <= 20; second++) {
                List<Integer> weights = new ArrayList<>(told.weights);
                weights.set(a, first);
                weights.set(b, second);
                int worth = allBy(weights, false);
                if (worth > most) {
                    most = worth;
                    best = weights;
                }
            }
        }
        told.weights = best;
        return most;
    }

    int step() {
        int most = all(false);
        List<Integer> best = null;
        for (int mark = 0; mark < 5; mark++) {
            for (int by = -1; by <= 1; by += 2) {
                List<Integer> weights = new ArrayList<>(told.weights);
                weights.set(mark, weights.get(mark) + by);
                if (within(weights.get(mark), 0, 20) && allBy(weights, false) > most) {
                    most = allBy(weights, false);
                    best = weights;
                }
            }
        }
        if (best == null) {
            return -1;
        }
        told.weights = best;
        return most;
    }

    int keep() {
        if (told.versions.size() == 30) {
            return -1;
        }
        told.versions.add(List.copyOf(told.weights));
        return told.versions.size() - 1;
    }

    boolean back(int version) {
        if (!isVersion(version)) {
            return false;
        }
        told.weights = new ArrayList<>(told.versions.get(version));
        return true;
    }

    int lost(int a, int b, int what) {
        if (!isVersion(a) || !isVersion(b) || !within(what, 0, 2)) {
            return -1;
        }
        Map<Integer, Integer> losses = new LinkedHashMap<>();
        for (int q = 0; q < told.queries.size(); q++) {
            int loss = worthBy(q, told.versions.get(a)) - worthBy(q, told.versions.get(b));
            if (loss > 0) {
                losses.put(q, loss);
            }
        }
        int most = losses.values().stream().mapToInt(loss -> loss).max().orElse(0);
        if (what == 1) {
            return losses.keySet().stream().filter(q -> losses.get(q) == most).findFirst().orElse(-1);
        }
        return what == 0 ? losses.size() : most;
    }

    int now(int mark) {
        return within(mark, 0, 4) ? told.weights.get(mark) : -1;
    }

    int mix(int query, int a, int b, int bits) {
        if (!isQuery(query) || !isVersion(a) || !isVersion(b)) {
            return -1;
        }
        List<List<Integer>> left = List.of(order(query, told.versions.get(a)), order(query, told.versions.get(b)));
        if (!told.mixedVersions.equals(List.of(a, b))) {
            told.clicks = new int[2];
        }
        told.mixedVersions = List.of(a, b);
        told.list = new ArrayList<>();
        int[] taken = new int[2];
        int rest = bits;
        while (told.list.size() < 6 && !left.get(0).isEmpty()) {
            int side = taken[0] < taken[1] ? 0 : 1;
            if (taken[0] == taken[1]) {
                side = (rest & 1) != 0 ? 0 : 1;
                rest >>= 1;
            }
            taken[side]++;
            Integer page = left.get(side).get(0);
            left.get(0).remove(page);
            left.get(1).remove(page);
            told.list.add(new int[] {page, side});
        }
        return told.list.size();
    }

    int mixed(int k, int what) {
        return within(k, 0, told.list.size() - 1) && within(what, 0, 1) ? told.list.get(k)[what] : -1;
    }

    int click(int k) {
        if (!within(k, 0, told.list.size() - 1) || told.clicks[0] + told.clicks[1] == 55) {
            return -1;
        }
        return ++told.clicks[told.list.get(k)[1]];
    }

    int trial(int what) {
        int a = told.clicks[0];
        int b = told.clicks[1];
        switch (what) {
            case 0:
                return a;
            case 1:
                return b;
            case 2:
                return sure(a, a + b) ? 1 : 0;
            case 3:
                return a > b ? 0 : b > a ? 1 : -1;
            default:
                return -1;
        }
    }

    boolean sure(int x, int n) {
        return within(n, 0, 55) && within(x, 0, n) && MixingTest.isSure(x, n);
    }

    boolean image(int k) {
        if (!within(k, 0, 2)) {
            return false;
        }
        images.put(k, told.copy());
        return true;
    }

    boolean again(int k) {
        if (!images.containsKey(k)) {
            return false;
        }
        told = images.get(k).copy();
        return true;
    }
}
