import java.math.BigInteger;
import java.util.ArrayList;
import java.util.Arrays;
import java.util.HashMap;
import java.util.LinkedHashSet;
import java.util.List;
import java.util.Map;
import java.util.Set;

/**
 * The document written a second time, slowly and in another way: ages as maps that are all made
 * anew in each round, ways all tried one after the other or, when there are too many, by recursion.
 */
final class Model {
    private static final int TRIES = 3000;

    /** A way's time and its edges. */
    private record Way(long time, List<Integer> edges) { }

    private static final class Edge {
        final int from;
        final int to;
        int bound = -1;

        Edge(int from, int to) {
            this.from = from;
            this.to = to;
        }
    }

    private final int sets;
    private final int ways;
    private final int penalty;
    private final List<Integer> times = new ArrayList<>();
    private final List<List<Integer>> touched = new ArrayList<>();
    private final List<Edge> edges = new ArrayList<>();
    private final List<int[]> pairs = new ArrayList<>();

    private boolean stale = true;
    private List<Map<Integer, Integer>> greatest;
    private List<Map<Integer, Integer>> least;
    private final Way[] found = new Way[2];
    int answers = 0;
    int byRecursion = 0;

    Model(int sets, int ways, int penalty) {
        this.sets = new int[] {1, 2, 4}[(int) rest(sets, 3)];
        this.ways = 1 + (int) rest((long) ways - 1, 4);
        this.penalty = (int) rest(penalty, 1000);
    }

    private static long rest(long n, long by) {
        return ((n % by) + by) % by;
    }

    int block(int time) {
        if (time < 0 || time > 100000) throw new IllegalArgumentException();
        if (times.size() == 40) throw new UnsupportedOperationException();
        stale = true;
        times.add(time);
        touched.add(new ArrayList<>());
        return times.size() - 1;
    }

    int touch(int block, int line) {
        needBlock(block);
        if (touched.get(block).size() == 6) throw new UnsupportedOperationException();
        Set<Integer> all = lines();
        all.add(line);
        if (all.size() > 40) throw new UnsupportedOperationException();
        stale = true;
        touched.get(block).add(line);
        return touched.get(block).size();
    }

    int edge(int from, int to) {
        needBlock(from);
        needBlock(to);
        if (edges.size() == 80) throw new UnsupportedOperationException();
        stale = true;
        edges.add(new Edge(from, to));
        return edges.size() - 1;
    }

    int bound(int edge, int n) {
        needEdge(edge);
        if (n < -1 || n > 15) throw new IllegalArgumentException();
        stale = true;
        int before = edges.get(edge).bound;
        edges.get(edge).bound = n;
        return before;
    }

    int pair(int a, int b) {
        needEdge(a);
        needEdge(b);
        if (a == b) throw new IllegalArgumentException();
        if (pairs.size() == 3) throw new UnsupportedOperationException();
        stale = true;
        pairs.add(new int[] {a, b});
        return pairs.size();
    }

    long worst() {
        return answer(0).time();
    }

    long best() {
        return answer(1).time();
    }

    int way(int what, int k) {
        answer(0);
        if (k < 0 || what < 0 || what > 1) throw new IndexOutOfBoundsException();
        List<Integer> way = answer(what).edges();
        return k < way.size() ? way.get(k) : -1;
    }

    int touches(int block, int i) {
        needBlock(block);
        if (i < 0 || i >= touched.get(block).size()) throw new IndexOutOfBoundsException();
        work();
        return greatest.get(block) == null ? -1 : outcomes(block).get(i);
    }

    int age(int block, int line, int what) {
        needBlock(block);
        if (what < 0 || what > 1) throw new IndexOutOfBoundsException();
        work();
        Map<Integer, Integer> there = (what == 0 ? greatest : least).get(block);
        return there == null ? -1 : there.getOrDefault(line, -1);
    }

    int time(int block, int what) {
        needBlock(block);
        if (what < 0 || what > 1) throw new IndexOutOfBoundsException();
        work();
        int all = times.get(block);
        if (greatest.get(block) != null) {
            for (int outcome : outcomes(block)) {
                all += outcome == 2 || what == 0 && outcome == 0 ? penalty : 0;
            }
        }
        return all;
    }

    int count(int what) {
        work();
        int come = 0;
        for (Map<Integer, Integer> there : greatest) {
            come += there == null ? 0 : 1;
        }
        int[] all = {times.size(), edges.size(), pairs.size(), lines().size(), come, sets, ways,
            penalty};
        return what < 0 || what >= all.length ? -1 : all[what];
    }

    private void needBlock(int b) {
        if (b < 0 || b >= times.size()) throw new IndexOutOfBoundsException();
    }

    private void needEdge(int e) {
        if (e < 0 || e >= edges.size()) throw new IndexOutOfBoundsException();
    }

    private Set<Integer> lines() {
        Set<Integer> all = new LinkedHashSet<>();
        touched.forEach(all::addAll);
        return all;
    }

    private Way answer(int what) {
        work();
        if (found[what] == null) throw new UnsupportedOperationException();
        return found[what];
    }

    private void work() {
        if (!stale) return;
        stale = false;
        settle();
        found[0] = null;
        found[1] = null;
        if (!times.isEmpty() && !goesRound() && !tooMany()) {
            findWays();
        }
        answers += found[0] == null ? 0 : 1;
    }

    // ---- the cache

    private void settle() {
        greatest = new ArrayList<>();
        least = new ArrayList<>();
        for (int b = 0; b < times.size(); b++) {
            greatest.add(null);
            least.add(null);
        }
        boolean again = true;
        while (again) {
            List<Map<Integer, Integer>> nextGreatest = new ArrayList<>();
            List<Map<Integer, Integer>> nextLeast = new ArrayList<>();
            for (int b = 0; b < times.size(); b++) {
                nextGreatest.add(joined(b, greatest, true));
                nextLeast.add(joined(b, least, false));
            }
            again = !nextGreatest.equals(greatest) || !nextLeast.equals(least);
            greatest = nextGreatest;
            least = nextLeast;
        }
    }

    private Map<Integer, Integer> joined(int b, List<Map<Integer, Integer>> begins, boolean sure) {
        List<Map<Integer, Integer>> arriving = new ArrayList<>();
        if (b == 0) arriving.add(new HashMap<>());
        for (Edge edge : edges) {
            if (edge.to == b && begins.get(edge.from) != null) {
                Map<Integer, Integer> there = new HashMap<>(begins.get(edge.from));
                for (int line : touched.get(edge.from)) use(there, line, sure);
                arriving.add(there);
            }
        }
        if (arriving.isEmpty()) return null;
        Map<Integer, Integer> all = new HashMap<>();
        for (int line : lines()) {
            int inHowMany = 0;
            int high = -1;
            int low = 99;
            for (Map<Integer, Integer> there : arriving) {
                if (there.containsKey(line)) {
                    inHowMany++;
                    high = Math.max(high, there.get(line));
                    low = Math.min(low, there.get(line));
                }
            }
            if (sure && inHowMany == arriving.size()) all.put(line, high);
            if (!sure && inHowMany > 0) all.put(line, low);
        }
        return all;
    }

    private void use(Map<Integer, Integer> there, int line, boolean sure) {
        int own = there.getOrDefault(line, ways);
        for (int other : new ArrayList<>(there.keySet())) {
            int age = there.get(other);
            boolean inSet = rest(other, sets) == rest(line, sets);
            if (other != line && inSet && (sure ? age < own : age <= own)) {
                if (age + 1 == ways) there.remove(other);
                else there.put(other, age + 1);
            }
        }
        there.put(line, 0);
    }

    private List<Integer> outcomes(int b) {
        Map<Integer, Integer> sure = new HashMap<>(greatest.get(b));
        Map<Integer, Integer> may = new HashMap<>(least.get(b));
        List<Integer> all = new ArrayList<>();
        for (int line : touched.get(b)) {
            all.add(sure.containsKey(line) ? 1 : may.containsKey(line) ? 0 : 2);
            use(sure, line, true);
            use(may, line, false);
        }
        return all;
    }

    // ---- no answer

    private boolean goesRound() {
        int n = times.size();
        boolean[][] along = new boolean[n][n];
        for (Edge edge : edges) {
            if (edge.bound == -1) along[edge.from][edge.to] = true;
        }
        for (int m = 0; m < n; m++) {
            for (int a = 0; a < n; a++) {
                for (int b = 0; b < n; b++) {
                    along[a][b] |= along[a][m] && along[m][b];
                }
            }
        }
        for (int b = 0; b < n; b++) {
            if (along[b][b] && greatest.get(b) != null) return true;
        }
        return false;
    }

    private boolean tooMany() {
        BigInteger product = BigInteger.valueOf(times.size());
        for (Edge edge : edges) {
            if (edge.bound != -1) product = product.multiply(BigInteger.valueOf(edge.bound + 1));
        }
        Set<Integer> paired = new LinkedHashSet<>();
        for (int[] pair : pairs) {
            paired.add(pair[0]);
            paired.add(pair[1]);
        }
        return product.shiftLeft(paired.size()).compareTo(BigInteger.valueOf(40000)) > 0;
    }

    // ---- ways

    private void findWays() {
        Trial trial = new Trial();
        trial.go(0, 0, 0);
        if (trial.steps <= TRIES) return;
        byRecursion++;
        for (int what = 0; what < 2; what++) {
            Recursion recursion = new Recursion(what);
            long time = recursion.from(0, new int[edges.size()]);
            found[what] = time < 0 ? null : new Way(time, recursion.way());
        }
    }

    private boolean mayTake(int e, int[] taken) {
        if (edges.get(e).bound != -1 && taken[e] >= edges.get(e).bound) return false;
        for (int[] pair : pairs) {
            if (pair[0] == e && taken[pair[1]] > 0 || pair[1] == e && taken[pair[0]] > 0) return false;
        }
        return true;
    }

    private boolean isEnd(int b) {
        return edges.stream().noneMatch(edge -> edge.from == b);
    }

    /** Tries all ways, those with lower edges first: of ways with one time the first one stays. */
    private final class Trial {
        final int[] taken = new int[edges.size()];
        final List<Integer> path = new ArrayList<>();
        int steps = 0;

        void go(int b, long high, long low) {
            steps++;
            if (steps > TRIES) return;
            long most = high + time(b, 0);
            long fewest = low + time(b, 1);
            if (isEnd(b)) {
                if (found[0] == null || most > found[0].time()) found[0] = new Way(most, List.copyOf(path));
                if (found[1] == null || fewest < found[1].time()) found[1] = new Way(fewest, List.copyOf(path));
                return;
            }
            for (int e = 0; e < edges.size(); e++) {
                if (edges.get(e).from == b && mayTake(e, taken)) {
                    taken[e]++;
                    path.add(e);
                    go(edges.get(e).to, most, fewest);
                    path.remove(path.size() - 1);
                    taken[e]--;
                }
            }
        }
    }

    /** The time from a block to the end, by what has been taken; -1, when no way ends. */
    private final class Recursion {
        final int what;
        final Map<String, Long> known = new HashMap<>();

        Recursion(int what) {
            this.what = what;
        }

        long from(int b, int[] taken) {
            if (isEnd(b)) return time(b, what);
            String key = b + Arrays.toString(taken);
            Long before = known.get(key);
            if (before != null) return before;
            long best = -1;
            for (int e = 0; e < edges.size(); e++) {
                if (edges.get(e).from == b && mayTake(e, taken)) {
                    long rest = from(edges.get(e).to, after(e, taken));
                    if (rest >= 0 && (best < 0 || (what == 0 ? rest > best : rest < best))) best = rest;
                }
            }
            long all = best < 0 ? -1 : best + time(b, what);
            known.put(key, all);
            return all;
        }

        // What does not matter is not counted, so that states meet again.
        private int[] after(int e, int[] taken) {
            int[] next = taken.clone();
            boolean inPair = pairs.stream().anyMatch(pair -> pair[0] == e || pair[1] == e);
            if (edges.get(e).bound != -1) next[e]++;
            else if (inPair) next[e] = 1;
            return next;
        }

        List<Integer> way() {
            List<Integer> path = new ArrayList<>();
            int[] taken = new int[edges.size()];
            int b = 0;
            while (!isEnd(b)) {
                long rest = from(b, taken) - time(b, what);
                int e = 0;
                while (edges.get(e).from != b || !mayTake(e, taken)
                        || from(edges.get(e).to, after(e, taken)) != rest) {
                    e++;
                }
                path.add(e);
                taken = after(e, taken);
                b = edges.get(e).to;
            }
            return path;
        }
    }
}
