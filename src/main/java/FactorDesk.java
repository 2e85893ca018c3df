/**
 * A graph whose vertices each ask for a number of edges: the most edges that give nobody more than
 * they ask for, and sets of vertices that show why there can't be more.
 */
public final class FactorDesk {
    public static final int NONE = -1;

    private static final int MAX_VERTICES = 9;
    private static final int MAX_EDGES = 14;
    private static final int MAX_DEMAND = 14;
    private static final int ALL_SETS = 1 << MAX_VERTICES;

    private final Graph graph;
    private final Search search;
    private final Bounds bounds;
    private final Answers known;

    public FactorDesk() {
        graph = new Graph();
        search = new Search();
        bounds = new Bounds();
        known = new Answers();
    }

    public boolean begin(int n) {
        if (n < 1 || n > MAX_VERTICES) {
            return false;
        }
        graph.clear(n);
        known.forget();
        return true;
    }

    public int edge(int a, int b) {
        if (graph.edgeCount >= MAX_EDGES || a == b || !graph.hasVertex(a) || !graph.hasVertex(b)) {
            return NONE;
        }
        graph.append(a, b);
        known.forget();
        return graph.edgeCount - 1;
    }

    public boolean drop(int e) {
        if (!graph.hasEdge(e)) {
            return false;
        }
        graph.remove(e);
        known.forget();
        return true;
    }

    public boolean ask(int v, int d) {
        if (!graph.hasVertex(v) || d < 0 || d > MAX_DEMAND) {
            return false;
        }
        graph.wanted[v] = d;
        known.forget();
        return true;
    }

    public int vertices() {
        return graph.vertexCount;
    }

    public int edges() {
        return graph.edgeCount;
    }

    public int end(int e, int which) {
        if (!graph.hasEdge(e) || which < 0 || which > 1) {
            return NONE;
        }
        return which == 0 ? graph.first[e] : graph.second[e];
    }

    public int demand(int v) {
        return graph.hasVertex(v) ? graph.wanted[v] : NONE;
    }

    public int judge(int set) {
        if (set < 0 || set >> graph.edgeCount != 0) {
            return NONE;
        }
        int verdict = 2;
        for (int v = 0; v < graph.vertexCount; v++) {
            int had = graph.degree(v, set);
            if (had > graph.wanted[v]) {
                return 0;
            }
            if (had < graph.wanted[v]) {
                verdict = 1;
            }
        }
        return verdict;
    }

    public int most() {
        solve();
        return known.bestCount;
    }

    public int best() {
        solve();
        return known.bestSet;
    }

    public int factor() {
        solve();
        // Where there is a factor, the largest fair sets are the factors: all give all that is asked.
        return 2 * known.bestCount == graph.wantedByAll() ? known.bestSet : NONE;
    }

    public int role(int e) {
        if (!graph.hasEdge(e)) {
            return NONE;
        }
        solve();
        search.load(graph, e);
        if ((known.bestSet >> e & 1) == 1) {
            return search.reaches(known.bestCount) ? 1 : 2;
        }
        boolean room = search.lend(graph.first[e]) && search.lend(graph.second[e]);
        return room && search.reaches(known.bestCount - 1) ? 1 : 0;
    }

    public int slack(int v) {
        if (!graph.hasVertex(v)) {
            return NONE;
        }
        solve();
        int needed = graph.degree(v, known.bestSet);
        while (needed > 0 && reachesWith(v, needed - 1, known.bestCount)) {
            needed--;
        }
        return graph.wanted[v] - needed;
    }

    public int gain(int v) {
        if (!graph.hasVertex(v)) {
            return NONE;
        }
        solve();
        // One edge more at one vertex makes room for one edge more at most.
        return reachesWith(v, graph.wanted[v] + 1, known.bestCount + 1) ? 1 : 0;
    }

    public int bound(int u, int w) {
        if (u < 0 || w < 0 || (u & w) != 0 || (u | w) >> graph.vertexCount != 0) {
            return NONE;
        }
        tabulate();
        return bounds.value(u, w);
    }

    public int witness(int which) {
        if (which < 0 || which > 1) {
            return NONE;
        }
        explain();
        return which == 0 ? known.witnessU : known.witnessW;
    }

    private void solve() {
        if (!known.solved) {
            search.load(graph, NONE);
            search.maximize();
            known.bestSet = search.foundSet;
            known.bestCount = search.foundCount;
            known.solved = true;
        }
    }

    private void tabulate() {
        if (!known.tabulated) {
            bounds.load(graph);
            known.tabulated = true;
        }
    }

    private void explain() {
        if (!known.explained) {
            solve();
            tabulate();
            bounds.find(known.bestCount);
            known.witnessU = bounds.foundU;
            known.witnessW = bounds.foundW;
            known.explained = true;
        }
    }

    private boolean reachesWith(int v, int d, int target) {
        search.load(graph, NONE);
        search.left[v] = d;
        return search.reaches(target);
    }

    /** What has been found out about the graph as it stands; a change of the graph ends it. */
    private static final class Answers {
        boolean solved;
        boolean tabulated;
        boolean explained;
        int bestSet;
        int bestCount;
        int witnessU;
        int witnessW;

        void forget() {
            solved = false;
            tabulated = false;
            explained = false;
        }
    }

    private static final class Graph {
        int vertexCount = 1;
        int edgeCount;
        final int[] first = new int[MAX_EDGES];
        final int[] second = new int[MAX_EDGES];
        final int[] wanted = new int[MAX_VERTICES];

        void clear(int n) {
            vertexCount = n;
            edgeCount = 0;
            for (int v = 0; v < MAX_VERTICES; v++) {
                wanted[v] = 0;
            }
        }

        boolean hasVertex(int v) {
            return v >= 0 && v < vertexCount;
        }

        boolean hasEdge(int e) {
            return e >= 0 && e < edgeCount;
        }

        void append(int a, int b) {
            first[edgeCount] = a;
            second[edgeCount] = b;
            edgeCount++;
        }

        void remove(int e) {
            edgeCount--;
            for (int i = e; i < edgeCount; i++) {
                first[i] = first[i + 1];
                second[i] = second[i + 1];
            }
        }

        int degree(int v, int set) {
            int sum = 0;
            for (int e = 0; e < edgeCount; e++) {
                if ((set >> e & 1) == 1 && (first[e] == v || second[e] == v)) {
                    sum++;
                }
            }
            return sum;
        }

        int wantedByAll() {
            int sum = 0;
            for (int v = 0; v < vertexCount; v++) {
                sum += wanted[v];
            }
            return sum;
        }
    }

    /** Looks for large fair sets by trying each edge, first with it and then without. */
    private static final class Search {
        private int size;
        private final int[] head = new int[MAX_EDGES];
        private final int[] tail = new int[MAX_EDGES];
        private final int[] twin = new int[MAX_EDGES];
        final int[] left = new int[MAX_VERTICES];
        private final int[] ahead = new int[MAX_VERTICES];
        private int enough;
        int foundSet;
        int foundCount;

        /** Takes over the graph without one of its edges (or with all, for NONE). */
        void load(Graph graph, int without) {
            size = 0;
            for (int v = 0; v < MAX_VERTICES; v++) {
                left[v] = graph.wanted[v];
                ahead[v] = 0;
            }
            for (int e = 0; e < graph.edgeCount; e++) {
                if (e != without) {
                    take(Math.min(graph.first[e], graph.second[e]), Math.max(graph.first[e], graph.second[e]));
                }
            }
        }

        private void take(int a, int b) {
            twin[size] = NONE;
            for (int i = 0; i < size; i++) {
                if (head[i] == a && tail[i] == b) {
                    twin[size] = i;
                }
            }
            head[size] = a;
            tail[size] = b;
            ahead[a]++;
            ahead[b]++;
            size++;
        }

        /** Uses up one edge's worth of what a vertex asks for; false when it asks for none. */
        boolean lend(int v) {
            left[v]--;
            return left[v] >= 0;
        }

        void maximize() {
            foundSet = 0;
            foundCount = 0;
            enough = size;
            explore(this, 0, 0, 0);
        }

        boolean reaches(int target) {
            foundSet = 0;
            foundCount = target - 1;
            enough = target;
            explore(this, 0, 0, 0);
            return foundCount >= target;
        }

        // With an edge before without it: so the first set found of a size is the first in ORDER.
        private static void explore(Search s, int e, int set, int count) {
            if (count > s.foundCount) {
                s.foundCount = count;
                s.foundSet = set;
            }
            if (e >= s.size || s.foundCount >= s.enough || count + s.hope() <= s.foundCount) {
                return;
            }
            int a = s.head[e];
            int b = s.tail[e];
            s.ahead[a]--;
            s.ahead[b]--;
            if (s.mayAdd(e, set)) {
                s.left[a]--;
                s.left[b]--;
                explore(s, e + 1, set | 1 << e, count + 1);
                s.left[a]++;
                s.left[b]++;
            }
            explore(s, e + 1, set, count);
            s.ahead[a]++;
            s.ahead[b]++;
        }

        // Of edges between the same two vertices the first ones serve as well as any, and are first in ORDER.
        private boolean mayAdd(int e, int set) {
            boolean inTurn = twin[e] < 0 || (set >> twin[e] & 1) == 1;
            return inTurn && left[head[e]] > 0 && left[tail[e]] > 0;
        }

        /** A number of edges that those not yet tried can't exceed. */
        private int hope() {
            int ends = 0;
            for (int v = 0; v < MAX_VERTICES; v++) {
                ends += Math.min(left[v], ahead[v]);
            }
            return ends / 2;
        }
    }

    /** The bounds of all pairs of sets of vertices, by way of tables over the sets. */
    private static final class Bounds {
        private final int[] order = new int[ALL_SETS];
        private final int[] near = new int[MAX_VERTICES];
        private final int[] wants = new int[ALL_SETS];
        private final int[] inside = new int[ALL_SETS];
        private final int[] part = new int[ALL_SETS];
        private int all;
        int foundU;
        int foundW;

        Bounds() {
            int count = 1;
            // Each set is followed, further on, by those with one more member behind its last.
            for (int i = 0; i < ALL_SETS; i++) {
                for (int v = 0; v < MAX_VERTICES; v++) {
                    if (1 << v > order[i] && count < ALL_SETS) {
                        order[count] = order[i] | 1 << v;
                        count++;
                    }
                }
            }
        }

        void load(Graph graph) {
            all = (1 << graph.vertexCount) - 1;
            countInside(graph);
            for (int v = 0; v < graph.vertexCount; v++) {
                for (int low = 0; low < 1 << v; low++) {
                    wants[low | 1 << v] = wants[low] + graph.wanted[v];
                    part[low | 1 << v] = partOf(v, low);
                }
            }
        }

        private void countInside(Graph graph) {
            for (int v = 0; v < MAX_VERTICES; v++) {
                near[v] = 0;
            }
            for (int set = 0; set <= all; set++) {
                inside[set] = 0;
            }
            for (int e = 0; e < graph.edgeCount; e++) {
                int a = graph.first[e];
                int b = graph.second[e];
                near[a] |= 1 << b;
                near[b] |= 1 << a;
                inside[1 << a | 1 << b]++;
            }
            for (int v = 0; v < graph.vertexCount; v++) {
                for (int set = 0; set <= all; set++) {
                    if ((set >> v & 1) == 1) {
                        inside[set] += inside[set ^ 1 << v];
                    }
                }
            }
        }

        /** The part that v is in when the vertices of others are there too; their parts are known. */
        private int partOf(int v, int others) {
            int joined = 1 << v;
            int rest = others;
            for (int i = 0; i < MAX_VERTICES && rest != 0; i++) {
                int next = part[rest];
                if ((next & near[v]) != 0) {
                    joined |= next;
                }
                rest &= ~next;
            }
            return joined;
        }

        int value(int u, int w) {
            int sum = wants[u] + inside[w];
            int rest = all & ~(u | w);
            for (int i = 0; i < MAX_VERTICES && rest != 0; i++) {
                int next = part[rest];
                int between = inside[next | w] - inside[next] - inside[w];
                sum += (wants[next] + between) / 2;
                rest &= ~next;
            }
            return sum;
        }

        /** The first two sets whose bound is as told: there are such for the size of the best set. */
        void find(int target) {
            for (int i = 0; i < ALL_SETS; i++) {
                int u = order[i];
                if ((u & ~all) == 0 && wants[u] <= target && findFor(u, target)) {
                    return;
                }
            }
        }

        private boolean findFor(int u, int target) {
            int others = all & ~u;
            for (int i = 0; i < ALL_SETS; i++) {
                int w = order[i];
                if ((w & ~others) == 0 && value(u, w) == target) {
                    foundU = u;
                    foundW = w;
                    return true;
                }
            }
            return false;
        }
    }
}
