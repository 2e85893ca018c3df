import java.util.ArrayList;
import java.util.List;

/** Graphs that the tests have in common, and numbers that none of them knows. */
final class Desks {
    static final int LOWEST = Integer.MIN_VALUE;
    static final int HIGHEST = Integer.MAX_VALUE;

    private Desks() {
    }

    static FactorDesk desk(int n, int[] ends, int... demands) {
        FactorDesk x = new FactorDesk();
        x.begin(n);
        for (int i = 0; i + 1 < ends.length; i += 2) {
            x.edge(ends[i], ends[i + 1]);
        }
        for (int v = 0; v < demands.length; v++) {
            x.ask(v, demands[v]);
        }
        return x;
    }

    static FactorDesk triangle(int d0, int d1, int d2) {
        return desk(3, new int[] {0, 1, 1, 2, 2, 0}, d0, d1, d2);
    }

    /** Vertex 0 in the middle, with one edge to each of three others. */
    static FactorDesk star(int middle, int outer) {
        return desk(4, new int[] {0, 1, 0, 2, 0, 3}, middle, outer, outer, outer);
    }

    /** Two vertices with all edges between them. */
    static FactorDesk bundle(int count, int d0, int d1) {
        FactorDesk x = desk(2, new int[0], d0, d1);
        for (int i = 0; i < count; i++) {
            x.edge(1, 0);
        }
        return x;
    }

    /** Edges that lead round and round: number e from e to e + 1; all ask for the same. */
    static FactorDesk ring(int n, int count, int demand) {
        FactorDesk x = desk(n, new int[0]);
        for (int e = 0; e < count; e++) {
            x.edge(e % n, (e + 1) % n);
        }
        for (int v = 0; v < n; v++) {
            x.ask(v, demand);
        }
        return x;
    }

    /** Numbers that none of count (up to 15) things bears: the next on either side, far ones, and
     *  such as would look right where only some of their bits were looked at. */
    static int[] outside(int count) {
        return new int[] {-1, -2, count, count + 1, 15, 16, 31, 32, 33, 64, 256, 65_536, 1 << 30, -16, -32, -256,
            HIGHEST, HIGHEST - 1, LOWEST, LOWEST + 1};
    }

    /** Sets that have others beside the first count things, or are below 0. */
    static List<Integer> strangeSets(int count) {
        int all = (1 << count) - 1;
        List<Integer> sets = new ArrayList<>(List.of(-1, -2, -1 << count, LOWEST, LOWEST | all, HIGHEST, HIGHEST - 1));
        for (int k = count; k < 31; k++) {
            sets.add(1 << k);
            sets.add(1 << k | all);
            sets.add(1 << k | 1);
        }
        return sets;
    }
}
