import java.util.ArrayDeque;
import java.util.ArrayList;
import java.util.Arrays;
import java.util.Collections;
import java.util.Deque;
import java.util.HashMap;
import java.util.HashSet;
import java.util.List;
import java.util.Map;
import java.util.Set;
import java.util.TreeSet;
import java.util.regex.Matcher;
import java.util.regex.Pattern;

/**
 * The document once more, written another way (snapshots, sets, all matchings and all rows looked
 * through), so that the class can be compared with it call by call.
 */
final class Model {
    private static final Pattern TEXT = Pattern.compile("(n\\d{2};|p\\d{4};|a\\d{3};|t\\d{3};)+", Pattern.DOTALL);
    private static final Map<Integer, List<int[]>> STARTERS = new HashMap<>();
    private static final Map<String, List<int[]>> ADDERS = new HashMap<>();

    /** A PAIR: FIRST, SECOND, ADDER. */
    record Pair(int first, int second, int adder) {
    }

    /** All that an image keeps; never changed, always made anew. */
    record Shot(int n, List<Pair> pairs, List<int[]> rules, Map<Integer, Set<Integer>> room) {
    }

    Shot now = new Shot(7, List.of(), List.of(), Map.of());
    private Shot taken = null;
    private final Deque<Shot> undoable = new ArrayDeque<>();
    private final StringBuilder letters = new StringBuilder();
    private final int[][] lists = new int[3][];
    private final int[] refused = new int[20];

    private int no(int number) {
        refused[-number]++;
        return number;
    }

    private long noLong(int number) {
        return 4000000000000000000L - no(number);
    }

    private static int mod(int v, int n) {
        return ((v % n) + n) % n;
    }

    private void pairsBecome(List<Pair> pairs) {
        now = new Shot(now.n, pairs, now.rules, now.room);
    }

    private void remember() {
        undoable.push(now);
        if (undoable.size() > 12) {
            undoable.removeLast();
        }
    }

    // ---- pairs

    int letter(int c) {
        if (c < 0) {
            return no(-4);
        }
        if (c > 255 || letters.length() == 72) {
            return no(-6);
        }
        letters.append((char) c);
        return letters.length();
    }

    int text() {
        String told = letters.toString();
        letters.setLength(0);
        if (!TEXT.matcher(told).matches()) {
            int good = 0;
            while (good < told.length() && goesOn(told.substring(0, good + 1))) {
                good++;
            }
            return -1000 - good;
        }
        Model other = new Model();
        other.now = now;
        int place = 0;
        int statements = 0;
        for (String s : told.split(";")) {
            if (other.statement(s) < 0) {
                return -2000 - place;
            }
            place += s.length() + 1;
            statements++;
        }
        now = other.now;
        undoable.clear();
        return statements;
    }

    private static boolean goesOn(String start) {
        Matcher m = TEXT.matcher(start);
        return m.matches() || m.hitEnd();
    }

    private int statement(String s) {
        int all = Integer.parseInt(s.substring(1));
        switch (s.charAt(0)) {
            case 'n':
                return size(all);
            case 'p':
                return pair(all / 100, all % 100);
            case 'a':
                return adder(all / 100, all % 100);
            default:
                return turn(all / 100, all % 100);
        }
    }

    int size(int n) {
        if (n < 3) {
            return no(-4);
        }
        if (n > 13) {
            return no(-6);
        }
        if (n % 2 == 0) {
            return no(-3);
        }
        int was = now.n;
        now = new Shot(n, List.of(), List.of(), Map.of());
        undoable.clear();
        return was;
    }

    int pair(int x, int y) {
        if (x < 1 || y < 1) {
            return no(-4);
        }
        if (x > now.n - 1 || y > now.n - 1 || whole(now.n, now.pairs)) {
            return no(-6);
        }
        if (x == y) {
            return no(-3);
        }
        List<Pair> more = new ArrayList<>(now.pairs);
        more.add(new Pair(x, y, 0));
        pairsBecome(more);
        undoable.clear();
        return more.size() - 1;
    }

    int drop() {
        if (now.pairs.isEmpty()) {
            return no(-3);
        }
        pairsBecome(now.pairs.subList(0, now.pairs.size() - 1));
        undoable.clear();
        return now.pairs.size();
    }

    private boolean isPair(int k) {
        return k >= 0 && k < now.pairs.size();
    }

    int adder(int pair, int v) {
        if (!isPair(pair)) {
            return no(-1);
        }
        if (v < 0) {
            return no(-4);
        }
        if (v > now.n - 1) {
            return no(-6);
        }
        remember();
        List<Pair> other = new ArrayList<>(now.pairs);
        Pair was = other.get(pair);
        other.set(pair, new Pair(was.first, was.second, v));
        pairsBecome(other);
        return was.adder;
    }

    int of(int pair, int what) {
        if (!isPair(pair)) {
            return no(-1);
        }
        Pair p = now.pairs.get(pair);
        switch (what) {
            case 0:
                return p.first;
            case 1:
                return p.second;
            case 2:
                return p.adder;
            case 3:
                return mod(p.first + p.second, now.n);
            case 4:
                return Math.min(mod(p.first - p.second, now.n), mod(p.second - p.first, now.n));
            default:
                return no(-2);
        }
    }

    int is(int what) {
        switch (what) {
            case 0:
                return whole(now.n, now.pairs) ? 1 : 0;
            case 1:
                return starter(now.n, now.pairs) ? 1 : 0;
            case 2:
                return strong(now.n, now.pairs) ? 1 : 0;
            case 3:
                return skew(now.n, now.pairs) ? 1 : 0;
            case 4:
                return added(now.n, now.pairs) ? 1 : 0;
            default:
                return no(-2);
        }
    }

    private static boolean whole(int n, List<Pair> pairs) {
        return pairs.size() * 2 == n - 1;
    }

    private static List<Integer> allButZero(int n) {
        List<Integer> all = new ArrayList<>();
        for (int v = 1; v < n; v++) {
            all.add(v);
        }
        return all;
    }

    private static boolean areAllButZero(int n, List<Integer> numbers) {
        List<Integer> sorted = new ArrayList<>(numbers);
        Collections.sort(sorted);
        return sorted.equals(allButZero(n));
    }

    static boolean starter(int n, List<Pair> pairs) {
        List<Integer> numbers = new ArrayList<>();
        List<Integer> differences = new ArrayList<>();
        for (Pair p : pairs) {
            numbers.addAll(List.of(p.first, p.second));
            differences.addAll(List.of(mod(p.first - p.second, n), mod(p.second - p.first, n)));
        }
        return whole(n, pairs) && areAllButZero(n, numbers) && areAllButZero(n, differences);
    }

    private static List<Integer> sums(int n, List<Pair> pairs) {
        List<Integer> sums = new ArrayList<>();
        for (Pair p : pairs) {
            sums.add(mod(p.first + p.second, n));
        }
        return sums;
    }

    private static boolean strong(int n, List<Pair> pairs) {
        List<Integer> sums = sums(n, pairs);
        return starter(n, pairs) && !sums.contains(0) && new HashSet<>(sums).size() == sums.size();
    }

    private static boolean skew(int n, List<Pair> pairs) {
        List<Integer> less = new ArrayList<>();
        for (int s : sums(n, pairs)) {
            less.add(mod(-s, n));
        }
        return strong(n, pairs) && Collections.disjoint(less, sums(n, pairs));
    }

    private static boolean added(int n, List<Pair> pairs) {
        List<Integer> adders = new ArrayList<>();
        List<Integer> shifted = new ArrayList<>();
        for (Pair p : pairs) {
            adders.add(p.adder);
            shifted.addAll(List.of(mod(p.first + p.adder, n), mod(p.second + p.adder, n)));
        }
        return starter(n, pairs) && !adders.contains(0) && new HashSet<>(adders).size() == adders.size()
            && areAllButZero(n, shifted);
    }

    private static List<Pair> bookOf(int n) {
        List<Pair> book = new ArrayList<>();
        for (int d = 1; 2 * d < n; d++) {
            book.add(new Pair(d, n - d, 0));
        }
        return book;
    }

    int book() {
        if (now.n > 11) {
            return no(-6);
        }
        List<Pair> book = bookOf(now.n);
        List<int[]> rows = addersOf(now.n, book);
        if (!rows.isEmpty()) {
            for (int k = 0; k < book.size(); k++) {
                book.set(k, new Pair(book.get(k).first, book.get(k).second, rows.get(0)[k]));
            }
        }
        pairsBecome(book);
        undoable.clear();
        return book.size();
    }

    int right(int d) {
        if (d < 0) {
            return no(-4);
        }
        if (d > (now.n - 1) / 2) {
            return no(-6);
        }
        if (!starter(now.n, now.pairs)) {
            return no(-3);
        }
        if (d > 0) {
            return shift(d);
        }
        Set<Integer> shifts = new HashSet<>();
        for (int e = 1; 2 * e < now.n; e++) {
            shifts.add(shift(e));
        }
        return !shifts.contains(0) && shifts.size() == (now.n - 1) / 2 ? 1 : 0;
    }

    private Pair withDifference(List<Pair> pairs, int d) {
        for (Pair p : pairs) {
            if (mod(p.first - p.second, now.n) == d || mod(p.second - p.first, now.n) == d) {
                return p;
            }
        }
        throw new IllegalStateException("no starter");
    }

    private int shift(int d) {
        Pair from = withDifference(bookOf(now.n), d);
        Pair to = withDifference(now.pairs, d);
        for (int s = 0; s < now.n; s++) {
            Set<Integer> moved = Set.of(mod(from.first + s, now.n), mod(from.second + s, now.n));
            if (moved.equals(Set.of(to.first, to.second))) {
                return s;
            }
        }
        throw new IllegalStateException("no shift");
    }

    // ---- the room

    int build() {
        if (!whole(now.n, now.pairs)) {
            return no(-3);
        }
        Map<Integer, Set<Integer>> room = new HashMap<>();
        int lost = 0;
        for (int i = 0; i < now.n; i++) {
            room.put(100 * i + i, Set.of(now.n, i));
            for (Pair p : now.pairs) {
                int place = 100 * i + mod(i - p.adder, now.n);
                Set<Integer> points = Set.of(mod(p.first + i, now.n), mod(p.second + i, now.n));
                lost += room.putIfAbsent(place, points) != null ? 1 : 0;
            }
        }
        now = new Shot(now.n, now.pairs, now.rules, room);
        undoable.clear();
        return lost;
    }

    private boolean isCell(int r, int c) {
        return r >= 0 && r < now.n && c >= 0 && c < now.n;
    }

    int cell(int r, int c, int x, int y) {
        if (!isCell(r, c)) {
            return no(-1);
        }
        if (x != -1) {
            if (x < -1 || y < 0) {
                return no(-4);
            }
            if (x > now.n || y > now.n) {
                return no(-6);
            }
            if (x == y) {
                return no(-3);
            }
        }
        remember();
        Map<Integer, Set<Integer>> room = new HashMap<>(now.room);
        Set<Integer> was = room.remove(100 * r + c);
        if (x != -1) {
            room.put(100 * r + c, Set.of(x, y));
        }
        now = new Shot(now.n, now.pairs, now.rules, room);
        return was != null ? 1 : 0;
    }

    int at(int r, int c, int what) {
        if (!isCell(r, c)) {
            return no(-1);
        }
        if (what != 0 && what != 1) {
            return no(-2);
        }
        Set<Integer> points = now.room.get(100 * r + c);
        if (points == null) {
            return -9;
        }
        return what == 0 ? Collections.min(points) : Collections.max(points);
    }

    int faults(int what, int k) {
        if (what < 0 || what > 2) {
            return no(-2);
        }
        if (what == 2) {
            return faultsOfPairs();
        }
        if (k < 0 || k >= now.n) {
            return no(-1);
        }
        return faultsOfLine(what, k);
    }

    private int faultsOfLine(int what, int k) {
        List<Integer> points = new ArrayList<>();
        for (Map.Entry<Integer, Set<Integer>> e : now.room.entrySet()) {
            if ((what == 0 ? e.getKey() / 100 : e.getKey() % 100) == k) {
                points.addAll(e.getValue());
            }
        }
        int faults = 0;
        for (int p = 0; p <= now.n; p++) {
            faults += Collections.frequency(points, p) != 1 ? 1 : 0;
        }
        return faults;
    }

    private int faultsOfPairs() {
        int faults = 0;
        for (int x = 0; x <= now.n; x++) {
            for (int y = 0; y < x; y++) {
                faults += Collections.frequency(now.room.values(), Set.of(x, y)) != 1 ? 1 : 0;
            }
        }
        return faults;
    }

    int indeed() {
        int faults = faultsOfPairs();
        for (int k = 0; k < now.n; k++) {
            faults += faultsOfLine(0, k) + faultsOfLine(1, k);
        }
        return faults == 0 ? 1 : 0;
    }

    int faced() {
        int faced = 0;
        for (int r = 0; r < now.n; r++) {
            for (int c = 0; c < r; c++) {
                faced += now.room.containsKey(100 * r + c) == now.room.containsKey(100 * c + r) ? 2 : 0;
            }
        }
        return faced;
    }

    int where(int x, int y) {
        if (x < 0 || y < 0) {
            return no(-4);
        }
        if (x > now.n || y > now.n) {
            return no(-6);
        }
        if (x == y) {
            return no(-3);
        }
        TreeSet<Integer> places = new TreeSet<>();
        for (Map.Entry<Integer, Set<Integer>> e : now.room.entrySet()) {
            if (e.getValue().equals(Set.of(x, y))) {
                places.add(e.getKey());
            }
        }
        return places.isEmpty() ? -9 : places.first();
    }

    // ---- searches

    /** Of all matchings the starters, each told by its other NUMBERS, put in order. */
    static List<int[]> startersOf(int n) {
        return STARTERS.computeIfAbsent(n, size -> {
            List<int[]> found = new ArrayList<>();
            match(size, new ArrayList<>(), allButZero(size), found);
            found.sort(Arrays::compare);
            return found;
        });
    }

    private static void match(int n, List<Pair> pairs, List<Integer> free, List<int[]> found) {
        if (free.isEmpty()) {
            if (starter(n, pairs)) {
                found.add(pairs.stream().mapToInt(Pair::second).toArray());
            }
            return;
        }
        for (int i = free.size() - 1; i > 0; i--) {
            List<Integer> rest = new ArrayList<>(free);
            List<Pair> more = new ArrayList<>(pairs);
            more.add(new Pair(rest.get(0), rest.remove(i), 0));
            rest.remove(0);
            match(n, more, rest, found);
        }
    }

    static List<Pair> pairsOf(int n, int[] others) {
        List<Integer> free = allButZero(n);
        List<Pair> pairs = new ArrayList<>();
        for (int other : others) {
            int lesser = free.remove(0);
            free.remove(Integer.valueOf(other));
            pairs.add(new Pair(lesser, other, 0));
        }
        return pairs;
    }

    /** Of all rows of unlike NUMBERS those by which PAIRS are ADDED, put in order. */
    static List<int[]> addersOf(int n, List<Pair> pairs) {
        StringBuilder key = new StringBuilder().append(n);
        for (Pair p : pairs) {
            key.append(' ').append(p.first).append(' ').append(p.second);
        }
        return ADDERS.computeIfAbsent(key.toString(), told -> {
            List<int[]> found = new ArrayList<>();
            fillRow(n, pairs, new ArrayList<>(), found);
            found.sort(Arrays::compare);
            return found;
        });
    }

    private static void fillRow(int n, List<Pair> pairs, List<Integer> row, List<int[]> found) {
        if (row.size() == pairs.size()) {
            List<Pair> set = new ArrayList<>();
            for (int k = 0; k < row.size(); k++) {
                set.add(new Pair(pairs.get(k).first, pairs.get(k).second, row.get(k)));
            }
            if (added(n, set)) {
                found.add(row.stream().mapToInt(Integer::intValue).toArray());
            }
            return;
        }
        for (int v = n - 1; v > 0; v--) {
            if (!row.contains(v)) {
                row.add(v);
                fillRow(n, pairs, row, found);
                row.remove(row.size() - 1);
            }
        }
    }

    int starters(int i, int k) {
        if (i < -1) {
            return no(-4);
        }
        if (now.n > 11) {
            return no(-3);
        }
        List<int[]> all = startersOf(now.n);
        if (i == -1) {
            return all.size();
        }
        if (k < 0 || k >= (now.n - 1) / 2) {
            return no(-1);
        }
        return i < all.size() ? all.get(i)[k] : -9;
    }

    private int strongOnes(boolean alsoSkew) {
        int ones = 0;
        for (int[] others : startersOf(now.n)) {
            List<Pair> pairs = pairsOf(now.n, others);
            ones += (alsoSkew ? skew(now.n, pairs) : strong(now.n, pairs)) ? 1 : 0;
        }
        return ones;
    }

    int strong(int what) {
        if (what != 0 && what != 1) {
            return no(-2);
        }
        return now.n > 11 ? no(-3) : strongOnes(what == 1);
    }

    int adders(int i, int k) {
        if (i < -1) {
            return no(-4);
        }
        if (now.n > 11 || !starter(now.n, now.pairs)) {
            return no(-3);
        }
        List<int[]> all = addersOf(now.n, now.pairs);
        if (i == -1) {
            return all.size();
        }
        if (!isPair(k)) {
            return no(-1);
        }
        return i < all.size() ? all.get(i)[k] : -9;
    }

    long odds(int part) {
        if (part != 0 && part != 1) {
            return noLong(-2);
        }
        if (now.n > 11) {
            return noLong(-3);
        }
        int above = strongOnes(false);
        int below = startersOf(now.n).size();
        for (int d = 2; d <= below; d++) {
            while (above % d == 0 && below % d == 0) {
                above /= d;
                below /= d;
            }
        }
        return part == 0 ? above : below;
    }

    int lots(int m, int z, int what) {
        if (m < 1) {
            return no(-4);
        }
        if (m > 50) {
            return no(-6);
        }
        if (what != 0 && what != 1) {
            return no(-2);
        }
        int many = now.pairs.size();
        if (many == 0) {
            return no(-3);
        }
        int[] seconds = now.pairs.stream().mapToInt(Pair::second).toArray();
        int did = 0;
        long seed = z;
        for (int t = 0; t < m; t++) {
            int[] chosen = new int[2];
            for (int j = 0; j < 2; j++) {
                seed = (int) (seed * 1664525L + 1013904223L);
                long unsigned = seed < 0 ? seed + 2147483648L : seed;
                chosen[j] = (int) (unsigned / 256 % many);
            }
            int[] other = seconds.clone();
            other[chosen[0]] = seconds[chosen[1]];
            other[chosen[1]] = seconds[chosen[0]];
            boolean alike = false;
            for (int k = 0; k < many; k++) {
                alike |= other[k] == now.pairs.get(k).first;
            }
            if (!alike) {
                seconds = other;
                did++;
            }
        }
        Set<Integer> differences = new HashSet<>();
        for (int k = 0; k < many; k++) {
            differences.add(mod(now.pairs.get(k).first - seconds[k], now.n));
            differences.add(mod(seconds[k] - now.pairs.get(k).first, now.n));
        }
        return what == 0 ? did : differences.size();
    }

    // ---- turns

    int turn(int kind, int u) {
        if (kind < 0 || kind > 5) {
            return no(-2);
        }
        if (u < 0) {
            return no(-4);
        }
        if (u > 12 || now.rules.size() == 6) {
            return no(-6);
        }
        List<int[]> more = new ArrayList<>(now.rules);
        more.add(new int[] {kind, u});
        now = new Shot(now.n, now.pairs, more, now.room);
        return more.size();
    }

    int still() {
        int was = now.rules.size();
        now = new Shot(now.n, now.pairs, List.of(), now.room);
        return was;
    }

    private List<Pair> pairsTurned() {
        List<Pair> pairs = now.pairs;
        for (int[] rule : now.rules) {
            List<Pair> next = new ArrayList<>();
            for (int k = 0; k < pairs.size(); k++) {
                next.add(turnedOnce(pairs, k, rule[0], rule[1]));
            }
            pairs = next;
        }
        return pairs;
    }

    private Pair turnedOnce(List<Pair> pairs, int k, int kind, int u) {
        int n = now.n;
        int many = pairs.size();
        Pair p = pairs.get(k);
        switch (kind) {
            case 0:
                return new Pair(p.first * u % n, p.second * u % n, p.adder * u % n);
            case 1:
                return new Pair((n - p.first) % n, (n - p.second) % n, (n - p.adder) % n);
            case 2:
                return pairs.get(many - 1 - k);
            case 3:
                return pairs.get((k + u) % many);
            case 4:
                return u % 2 == 1 ? new Pair(p.second, p.first, p.adder) : p;
            default:
                return new Pair(p.first, p.second, pairs.get((k + u) % many).adder);
        }
    }

    int turned(int k, int what) {
        if (!isPair(k)) {
            return no(-1);
        }
        if (what < 0 || what > 2) {
            return no(-2);
        }
        Pair p = pairsTurned().get(k);
        return what == 0 ? p.first : what == 1 ? p.second : p.adder;
    }

    int turns() {
        List<Pair> pairs = pairsTurned();
        for (Pair p : pairs) {
            if (p.first == 0 || p.second == 0 || p.first == p.second) {
                return no(-3);
            }
        }
        remember();
        pairsBecome(pairs);
        return pairs.size();
    }

    // ---- lists of numbers

    private boolean isList(int list) {
        return list >= 0 && list <= 2;
    }

    int list(int list, int n) {
        if (!isList(list)) {
            return no(-1);
        }
        if (n > 40) {
            return no(-6);
        }
        if (n < 0) {
            return -14;
        }
        lists[list] = new int[n];
        return 1;
    }

    int put(int list, int i, int v) {
        if (!isList(list)) {
            return no(-1);
        }
        if (lists[list] == null) {
            return -11;
        }
        if (i < 0 || i >= lists[list].length) {
            return -13;
        }
        lists[list][i] = v;
        return 1;
    }

    long look(int list, int i) {
        if (!isList(list)) {
            return noLong(-1);
        }
        if (lists[list] == null) {
            return 4000000000000000011L;
        }
        if (i < 0 || i >= lists[list].length) {
            return 4000000000000000013L;
        }
        return lists[list][i];
    }

    private List<Integer> numbers() {
        List<Integer> numbers = new ArrayList<>();
        for (Pair p : now.pairs) {
            numbers.add(p.first);
            numbers.add(p.second);
        }
        return numbers;
    }

    int lays(int list, int i) {
        if (!isList(list)) {
            return no(-1);
        }
        if (lists[list] == null) {
            return -11;
        }
        List<Integer> numbers = numbers();
        int[] laid = lists[list].clone();
        long place = i;
        for (int v : numbers) {
            if (place < 0 || place >= laid.length) {
                return -13;
            }
            laid[(int) place] = v;
            place++;
        }
        lists[list] = laid;
        return numbers.size();
    }

    int judge(int list) {
        if (!isList(list)) {
            return no(-1);
        }
        if (lists[list] == null) {
            return -11;
        }
        List<Integer> numbers = numbers();
        for (int i = 0; i < lists[list].length; i++) {
            if (i >= numbers.size() || numbers.get(i) != lists[list][i]) {
                return i;
            }
        }
        return -9;
    }

    int sizes(int list) {
        if (!isList(list)) {
            return no(-1);
        }
        int[] row = lists[list];
        if (row == null) {
            return -11;
        }
        if (row.length % 2 != 0) {
            return no(-3);
        }
        List<Pair> pairs = new ArrayList<>();
        for (int i = 0; i < row.length; i += 2) {
            pairs.add(new Pair(row[i], row[i + 1], 0));
        }
        int bits = 0;
        for (int n = 3; n <= 13; n += 2) {
            bits |= starter(n, pairs) ? 1 << (n - 3) / 2 : 0;
        }
        return bits;
    }

    // ---- the image

    int undo() {
        if (undoable.isEmpty()) {
            return no(-3);
        }
        Shot ahead = undoable.pop();
        now = new Shot(ahead.n, ahead.pairs, now.rules, ahead.room);
        return undoable.size();
    }

    int image() {
        taken = now;
        return now.pairs.size();
    }

    int on() {
        if (taken == null) {
            return no(-3);
        }
        now = taken;
        undoable.clear();
        return now.pairs.size();
    }

    int count(int what) {
        switch (what) {
            case 0:
                return now.n;
            case 1:
                return now.pairs.size();
            case 2:
                return now.rules.size();
            case 3:
                return now.room.size();
            case 4:
                return letters.length();
            case 5:
                return undoable.size();
            case 11:
            case 12:
            case 13:
            case 14:
            case 15:
            case 16:
                return refused[what - 10];
            default:
                return -9;
        }
    }
}
