import java.util.ArrayList;
import java.util.Arrays;
import java.util.List;

/**
 * The document's words as directly as they can be written, without regard to speed: every set is
 * looked at. Serves to tell what is due.
 */
final class PlainDesk {
    static final int NONE = -1;

    private int n = 1;
    private final List<int[]> edges = new ArrayList<>();
    private int[] demand = new int[1];

    boolean begin(int size) {
        if (size < 1 || size > 9) {
            return false;
        }
        n = size;
        edges.clear();
        demand = new int[n];
        return true;
    }

    int edge(int a, int b) {
        if (edges.size() == 14 || a == b || !isVertex(a) || !isVertex(b)) {
            return NONE;
        }
        edges.add(new int[] {a, b});
        return edges.size() - 1;
    }

    boolean drop(int e) {
        if (!isEdge(e)) {
            return false;
        }
        edges.remove(e);
        return true;
    }

    boolean ask(int v, int d) {
        if (!isVertex(v) || d < 0 || d > 14) {
            return false;
        }
        demand[v] = d;
        return true;
    }

    int vertices() {
        return n;
    }

    int edges() {
        return edges.size();
    }

    int end(int e, int which) {
        return isEdge(e) && (which == 0 || which == 1) ? edges.get(e)[which] : NONE;
    }

    int demand(int v) {
        return isVertex(v) ? demand[v] : NONE;
    }

    int judge(int set) {
        if (set < 0 || set >= 1 << edges.size()) {
            return NONE;
        }
        int[] had = degrees(set);
        return Arrays.equals(had, demand) ? 2 : isFair(had, demand) ? 1 : 0;
    }

    int most() {
        return mostFor(demand);
    }

    int best() {
        int first = 0;
        for (int set : largest()) {
            if (Integer.bitCount(first) != most() || earlier(set, first)) {
                first = set;
            }
        }
        return first;
    }

    int factor() {
        int first = NONE;
        for (int set = 0; set < 1 << edges.size(); set++) {
            if (judge(set) == 2 && (first == NONE || earlier(set, first))) {
                first = set;
            }
        }
        return first;
    }

    int role(int e) {
        if (!isEdge(e)) {
            return NONE;
        }
        boolean inAll = true;
        boolean inSome = false;
        for (int set : largest()) {
            boolean in = (set >> e & 1) == 1;
            inAll &= in;
            inSome |= in;
        }
        return inAll ? 2 : inSome ? 1 : 0;
    }

    int slack(int v) {
        if (!isVertex(v)) {
            return NONE;
        }
        int by = 0;
        for (int less = 1; less <= demand[v]; less++) {
            if (mostFor(changed(v, demand[v] - less)) == most()) {
                by = less;
            }
        }
        return by;
    }

    int gain(int v) {
        return isVertex(v) ? mostFor(changed(v, demand[v] + 1)) - most() : NONE;
    }

    int bound(int u, int w) {
        if (u < 0 || w < 0 || (u & w) != 0 || u >= 1 << n || w >= 1 << n) {
            return NONE;
        }
        int sum = 0;
        for (int v = 0; v < n; v++) {
            sum += has(u, v) ? demand[v] : 0;
        }
        for (int[] ends : edges) {
            sum += has(w, ends[0]) && has(w, ends[1]) ? 1 : 0;
        }
        int[] label = partLabels(u | w);
        for (int part = 0; part < n; part++) {
            sum += doubled(label, part, w) / 2;
        }
        return sum;
    }

    int witness(int which) {
        if (which != 0 && which != 1) {
            return NONE;
        }
        int most = most();
        int firstU = NONE;
        int firstW = NONE;
        for (int u = 0; u < 1 << n; u++) {
            for (int w = 0; w < 1 << n; w++) {
                boolean sooner = firstU == NONE || earlier(u, firstU) || u == firstU && earlier(w, firstW);
                if (sooner && (u & w) == 0 && bound(u, w) == most) {
                    firstU = u;
                    firstW = w;
                }
            }
        }
        return which == 0 ? firstU : firstW;
    }

    /** ORDER, member by member: fewer first, else who has the least number that only one has. */
    private static boolean earlier(int a, int b) {
        if (Integer.bitCount(a) != Integer.bitCount(b)) {
            return Integer.bitCount(a) < Integer.bitCount(b);
        }
        for (int k = 0; k < 31; k++) {
            if (has(a, k) != has(b, k)) {
                return has(a, k);
            }
        }
        return false;
    }

    private static boolean has(int set, int k) {
        return (set >> k & 1) == 1;
    }

    private boolean isVertex(int v) {
        return v >= 0 && v < n;
    }

    private boolean isEdge(int e) {
        return e >= 0 && e < edges.size();
    }

    private int[] degrees(int set) {
        int[] had = new int[n];
        for (int e = 0; e < edges.size(); e++) {
            if (has(set, e)) {
                had[edges.get(e)[0]]++;
                had[edges.get(e)[1]]++;
            }
        }
        return had;
    }

    private static boolean isFair(int[] had, int[] wanted) {
        for (int v = 0; v < had.length; v++) {
            if (had[v] > wanted[v]) {
                return false;
            }
        }
        return true;
    }

    private int mostFor(int[] wanted) {
        int most = 0;
        for (int set = 0; set < 1 << edges.size(); set++) {
            if (Integer.bitCount(set) > most && isFair(degrees(set), wanted)) {
                most = Integer.bitCount(set);
            }
        }
        return most;
    }

    private List<Integer> largest() {
        int most = most();
        List<Integer> sets = new ArrayList<>();
        for (int set = 0; set < 1 << edges.size(); set++) {
            if (Integer.bitCount(set) == most && isFair(degrees(set), demand)) {
                sets.add(set);
            }
        }
        return sets;
    }

    private int[] changed(int v, int d) {
        int[] wanted = demand.clone();
        wanted[v] = d;
        return wanted;
    }

    /** For each vertex the least of its part, or NONE for those that are in no part. */
    private int[] partLabels(int taken) {
        int[] label = new int[n];
        for (int v = 0; v < n; v++) {
            label[v] = has(taken, v) ? NONE : v;
        }
        for (int pass = 0; pass < n; pass++) {
            for (int[] ends : edges) {
                if (label[ends[0]] != NONE && label[ends[1]] != NONE) {
                    int least = Math.min(label[ends[0]], label[ends[1]]);
                    label[ends[0]] = least;
                    label[ends[1]] = least;
                }
            }
        }
        return label;
    }

    private int doubled(int[] label, int part, int w) {
        int sum = 0;
        for (int v = 0; v < n; v++) {
            sum += label[v] == part ? demand[v] : 0;
        }
        for (int[] ends : edges) {
            boolean there = label[ends[0]] == part && has(w, ends[1]);
            boolean back = label[ends[1]] == part && has(w, ends[0]);
            sum += there || back ? 1 : 0;
        }
        return sum;
    }
}
