import java.util.ArrayList;
import java.util.Collections;
import java.util.List;
import java.util.Random;

/** The boundaries that the document names under "What it is" and "Terms", a method for each. */
public final class TermsTest {
    private static final int NONE = FactorDesk.NONE;
    private static final int ALL_EDGES = (1 << 14) - 1;
    private static final int ALL_VERTICES = (1 << 9) - 1;
    private static final int CALLS = 512;

    private final Due due = new Due("TermsTest");

    public static void main(String[] args) {
        TermsTest test = new TermsTest();
        test.all512CallsAreAnswered();
        test.the512thCallMayBeTheDearest();
        test.thereAreOneToNineVertices();
        test.thereAreUpToFourteenEdges();
        test.edgesAreBetweenTwoDifferentVertices();
        test.allEdgesMayBeBetweenTheSameTwo();
        test.demandsAreZeroToFourteen();
        test.setsAreSumsOfPowersOfTwo();
        test.inOrderFewerComeFirst();
        test.inOrderTheLeastNumberOfOneAloneDecides();
        test.fairIsUpToTheDemand();
        test.aFactorGivesJustTheDemand();
        test.theBestSetIsAmongTheLargest();
        test.boundCountsTheDemandsOfU();
        test.boundCountsTheEdgesInsideW();
        test.boundHalvesDownForEachPart();
        test.boundCountsEdgesBetweenPartAndW();
        test.partsAreJoinedByTheirOwnVerticesAlone();
        test.thereMayBeNoPartOrNine();
        test.someBoundIsMetAndNoneExceeded();
        test.due.close();
    }

    // "An object is used for at most 512 calls after it has been made"
    private void all512CallsAreAnswered() {
        for (int seed = 0; seed < 40; seed++) {
            Random random = new Random(seed);
            FactorDesk x = new FactorDesk();
            PlainDesk plain = new PlainDesk();
            for (int i = 1; i <= CALLS; i++) {
                Call call = anyCall(random, plain.vertices(), plain.edges());
                due.same("run " + seed + ", call " + i + ", " + call, call.on(x), call.on(plain));
            }
        }
    }

    private static Call anyCall(Random random, int n, int m) {
        int v = random.nextInt(n + 1);
        int e = random.nextInt(m + 1);
        return switch (random.nextInt(40)) {
            case 0 -> Call.of("begin", random.nextInt(7));
            case 1, 2 -> Call.of(m > 6 ? "drop" : "edges", e);
            case 3, 4, 5, 6, 7, 8, 9 -> Call.of("edge", v, random.nextInt(n));
            case 10, 11, 12, 13, 14 -> Call.of("ask", v, random.nextInt(4));
            case 15, 16 -> Call.of("judge", random.nextInt(2 << m));
            case 17, 18 -> Call.of("bound", random.nextInt(2 << n), random.nextInt(1 << n));
            case 19, 20, 21 -> Call.of("witness", random.nextInt(3));
            case 22, 23 -> Call.of("role", e);
            case 24, 25 -> Call.of("slack", v);
            case 26, 27 -> Call.of("gain", v);
            case 28, 29 -> Call.of("factor");
            case 30, 31 -> Call.of("most");
            case 32, 33 -> Call.of("best");
            case 34 -> Call.of("end", e, random.nextInt(3));
            case 35 -> Call.of("demand", v);
            case 36 -> Call.of("vertices");
            default -> Call.of("edges");
        };
    }

    private void the512thCallMayBeTheDearest() {
        List<Call> last = List.of(Call.of("witness", 1), Call.of("best"), Call.of("factor"), Call.of("edge", 8, 0),
            Call.of("drop", 13), Call.of("slack", 8), Call.of("gain", 0), Call.of("bound", 1, 510), Call.of("role", 13));
        for (Call call : last) {
            FactorDesk x = new FactorDesk();
            PlainDesk plain = new PlainDesk();
            List<Call> before = longRun();
            due.same("calls before the last", before.size(), CALLS - 1);
            for (Call c : before) {
                due.same("a long run, " + c, c.on(x), c.on(plain));
            }
            due.same("the 512th call, " + call, call.on(x), call.on(plain));
        }
    }

    /** Seven questions, then a graph that is filled, emptied and begun anew, and in the end full. */
    private static List<Call> longRun() {
        List<Call> calls = new ArrayList<>(Collections.nCopies(7, Call.of("most")));
        for (int round = 0; round < 16; round++) {
            calls.add(Call.of("begin", 9));
            for (int v = 0; v < 9; v++) {
                calls.add(Call.of("ask", v, 1 + (v + round) % 3));
            }
            for (int e = 0; e < 14; e++) {
                calls.add(Call.of("edge", e % 9, (e % 9 + 1 + e / 9) % 9));
            }
            for (int e = 0; e < 8 && round < 15; e++) {
                calls.add(Call.of("drop", 0));
            }
        }
        return calls;
    }

    // "N being 1 .. 9 (1 at first)"
    private void thereAreOneToNineVertices() {
        FactorDesk x = new FactorDesk();
        due.same("N at first", x.vertices(), 1);
        due.holds("N = 9", x.begin(9) && x.vertices() == 9);
        due.refused("N = 10", x.begin(10));
        due.same("still 9", x.vertices(), 9);
        due.holds("N = 1", x.begin(1) && x.vertices() == 1);
        due.refused("N = 0", x.begin(0));
        due.same("still 1", x.vertices(), 1);
    }

    // "EDGES, numbered from 0 on, 14 at most (none at first)"
    private void thereAreUpToFourteenEdges() {
        due.same("edges at first", new FactorDesk().edges(), 0);
        for (int n = 2; n <= 9; n++) {
            FactorDesk x = Desks.desk(n, new int[0]);
            due.same("none with " + n, x.edges(), 0);
            for (int e = 0; e < 14; e++) {
                due.same("edge " + e + " of " + n, x.edge(0, 1 + e % (n - 1)), e);
            }
            due.same("no edge 14 of " + n, x.edge(0, 1), NONE);
            due.same("14 of " + n, x.edges(), 14);
        }
    }

    // "each between two different vertices"
    private void edgesAreBetweenTwoDifferentVertices() {
        for (int n = 1; n <= 9; n++) {
            FactorDesk x = Desks.desk(n, new int[0]);
            for (int v = 0; v < n; v++) {
                due.same("edge(" + v + ", " + v + ") of " + n, x.edge(v, v), NONE);
            }
            due.same("no edge came of it", x.edges(), 0);
        }
    }

    // "several edges may be between the same two"
    private void allEdgesMayBeBetweenTheSameTwo() {
        FactorDesk x = Desks.desk(9, new int[0]);
        for (int e = 0; e < 14; e++) {
            due.same("one more between 8 and 0", e % 2 == 0 ? x.edge(8, 0) : x.edge(0, 8), e);
        }
        x.ask(8, 14);
        x.ask(0, 14);
        due.same("all are of use", x.best(), ALL_EDGES);
        due.same("all lie in W", x.bound(0, 257), 14);
        due.same("all lie between", x.bound(0, 1), (14 + 14) / 2);
    }

    // "Each vertex has a DEMAND, 0 .. 14 (0 at first)"
    private void demandsAreZeroToFourteen() {
        due.same("at first", new FactorDesk().demand(0), 0);
        for (int n = 1; n <= 9; n++) {
            FactorDesk x = Desks.desk(n, new int[0]);
            for (int v = 0; v < n; v++) {
                due.same("at first " + v, x.demand(v), 0);
                due.holds("14 for " + v, x.ask(v, 14) && x.demand(v) == 14);
                due.refused("15 for " + v, x.ask(v, 15));
                due.same("still 14", x.demand(v), 14);
                due.holds("0 for " + v, x.ask(v, 0) && x.demand(v) == 0);
                due.refused("-1 for " + v, x.ask(v, -1));
                due.same("still 0", x.demand(v), 0);
            }
        }
    }

    // "SETS of edges, or of vertices, are told as sums of 2^k for what has the number k"
    private void setsAreSumsOfPowersOfTwo() {
        for (int k = 0; k < 14; k++) {
            FactorDesk x = Desks.desk(9, new int[0], 1, 1);
            for (int e = 0; e < 14; e++) {
                x.edge(e == k ? 0 : 7, e == k ? 1 : 8);
            }
            due.same("edge " + k + " alone, best", x.best(), 1 << k);
            due.same("edge " + k + " alone, factor", x.factor(), 1 << k);
            due.same("edge " + k + " alone, judge", x.judge(1 << k), 2);
            due.same("all but edge " + k, x.judge(ALL_EDGES ^ 1 << k), 0);
        }
        due.same("none", Desks.ring(9, 14, 0).best(), 0);
        due.same("all", Desks.ring(9, 14, 14).best(), ALL_EDGES);
        for (int v = 0; v < 9; v++) {
            oneVertexAlone(v);
        }
        due.same("all vertices as W", Desks.ring(9, 14, 14).witness(1), ALL_VERTICES);
    }

    /** Vertex v as the middle of a star must be U, and as a greedy end of a path W. */
    private void oneVertexAlone(int v) {
        int a = (v + 1) % 9;
        int b = (v + 2) % 9;
        int c = (v + 3) % 9;
        FactorDesk star = Desks.desk(9, new int[] {v, a, v, b, v, c});
        star.ask(v, 1);
        star.ask(a, 1);
        star.ask(b, 1);
        star.ask(c, 1);
        due.same("a star round " + v + ", U", star.witness(0), 1 << v);
        due.same("a star round " + v + ", W", star.witness(1), 0);
        due.same("a star round " + v + ", bound", star.bound(1 << v, 0), 1);
        FactorDesk path = Desks.desk(9, new int[] {a, b, b, v});
        path.ask(v, 2);
        path.ask(a, 1);
        path.ask(b, 1);
        due.same("a path to " + v + ", U", path.witness(0), 0);
        due.same("a path to " + v + ", W", path.witness(1), 1 << v);
        due.same("a path to " + v + ", bound", path.bound(0, 1 << v), 1);
    }

    // "ORDER of sets: the one with fewer first"
    private void inOrderFewerComeFirst() {
        FactorDesk x = Desks.desk(4, new int[] {2, 0, 2, 1, 3, 1, 0, 3, 2, 3}, 0, 0, 2, 0);
        due.same("U = {0, 1} would do", x.bound(3, 4), x.most());
        due.same("but U = {3} has fewer", x.witness(0), 8);
        due.same("its W", x.witness(1), 4);
        FactorDesk y = Desks.desk(5, new int[] {4, 1, 4, 0, 3, 1, 0, 2, 0, 3}, 2, 2, 2, 1, 1);
        due.same("W = {0, 1} would do", y.bound(0, 3), y.most());
        due.same("no U", y.witness(0), 0);
        due.same("but W = {2} has fewer", y.witness(1), 4);
    }

    // "of two with as many the one that has the least number that only one of them has"
    private void inOrderTheLeastNumberOfOneAloneDecides() {
        // Of edges 0 .. 13, {0, 13} against {6, 7}: rings of four, whose other edges nobody may have.
        FactorDesk x = Desks.desk(6, new int[] {0, 1, 4, 5, 4, 5, 4, 5, 4, 5, 4, 5, 1, 2, 3, 0, 4, 5, 4, 5, 4, 5, 4, 5, 4, 5, 2, 3},
            1, 1, 1, 1);
        due.same("{6, 7} would do", x.judge(1 << 6 | 1 << 7), 2);
        due.same("best is {0, 13}", x.best(), 1 | 1 << 13);
        due.same("factor is {0, 13}", x.factor(), 1 | 1 << 13);
        // {0, 2, 3} against {0, 1, 4}: 0 is in both, so 1 decides.
        FactorDesk y = Desks.desk(6, new int[] {4, 5, 0, 1, 1, 2, 3, 0, 2, 3}, 1, 1, 1, 1, 1, 1);
        due.same("{0, 2, 3} would do", y.judge(13), 2);
        due.same("best is {0, 1, 4}", y.best(), 19);
        due.same("factor is {0, 1, 4}", y.factor(), 19);
    }

    // "FAIR when no vertex has more of its edges than its demand"
    private void fairIsUpToTheDemand() {
        for (int d = 0; d <= 14; d++) {
            FactorDesk first = Desks.bundle(14, d, 14);
            FactorDesk second = Desks.bundle(14, 14, d);
            int just = (1 << d) - 1;
            due.same("as many as the first asks, " + d, first.judge(just), d == 14 ? 2 : 1);
            due.same("as many as the second asks, " + d, second.judge(just), d == 14 ? 2 : 1);
            if (d < 14) {
                due.same("one more than the first asks, " + d, first.judge(just << 1 | 1), 0);
                due.same("one more than the second asks, " + d, second.judge(just << 1 | 1), 0);
            }
        }
    }

    // "and a FACTOR when each has just as many"
    private void aFactorGivesJustTheDemand() {
        for (int d = 0; d <= 14; d++) {
            FactorDesk x = Desks.bundle(14, d, d);
            int just = (1 << d) - 1;
            due.same("just " + d, x.judge(just), 2);
            due.same("the first is just " + d, x.factor(), just);
            if (d > 0) {
                due.same("one less than " + d, x.judge(just >> 1), 1);
            }
            if (d < 14) {
                due.same("one more than " + d, x.judge(just << 1 | 1), 0);
            }
        }
        FactorDesk lone = Desks.desk(9, new int[] {0, 1}, 1, 1);
        due.same("eight have as many as they ask, and so has the last", lone.judge(1), 2);
        lone.ask(8, 1);
        due.same("the last has fewer", lone.judge(1), 1);
    }

    // "THE BEST set is the first in ORDER of the largest fair sets."
    private void theBestSetIsAmongTheLargest() {
        // ORDER would have the smaller {0} first; the largest set lacks it.
        FactorDesk path = Desks.desk(4, new int[] {1, 2, 0, 1, 2, 3}, 1, 1, 1, 1);
        due.same("{0} is fair", path.judge(1), 1);
        due.same("{1, 2} is larger", path.best(), 6);
        due.same("the empty set, where no edge is fair", Desks.ring(3, 14, 0).best(), 0);
        for (int m = 0; m <= 14; m++) {
            due.same("all " + m + " edges", Desks.bundle(m, 14, 14).best(), (1 << m) - 1);
        }
    }

    // "the demands of all of U"
    private void boundCountsTheDemandsOfU() {
        FactorDesk x = Desks.ring(9, 14, 14);
        due.same("all in U, all ask for 14", x.bound(ALL_VERTICES, 0), 9 * 14);
        due.same("all in U, nobody asks", Desks.ring(9, 14, 0).bound(ALL_VERTICES, 0), 0);
        FactorDesk y = Desks.desk(9, new int[0]);
        for (int v = 0; v < 9; v++) {
            y.ask(v, v + 5);
        }
        for (int v = 0; v < 9; v++) {
            due.same("U = {" + v + "}, all others in W", y.bound(1 << v, ALL_VERTICES ^ 1 << v), v + 5);
        }
    }

    // "the number of edges with both ends in W"
    private void boundCountsTheEdgesInsideW() {
        for (int m = 0; m <= 14; m++) {
            FactorDesk x = Desks.ring(9, m, 0);
            due.same("all of " + m + " in W", x.bound(0, ALL_VERTICES), m);
        }
        FactorDesk y = Desks.desk(3, new int[] {0, 1, 1, 0, 1, 2});
        due.same("two of three", y.bound(4, 3), 2);
        due.same("one end in W, the other in U", y.bound(5, 2), 0);
    }

    // "for each PART half (down) of: the demands of all its vertices, .."
    private void boundHalvesDownForEachPart() {
        for (int d = 0; d <= 14; d++) {
            FactorDesk one = Desks.desk(1, new int[0], d);
            due.same("half of " + d, one.bound(0, 0), d / 2);
            FactorDesk nine = Desks.ring(9, 0, d);
            due.same("nine times half of " + d, nine.bound(0, 0), 9 * (d / 2));
            FactorDesk joined = Desks.ring(9, 14, d);
            due.same("half of nine times " + d, joined.bound(0, 0), 9 * d / 2);
        }
    }

    // ".. and the number of edges between it and W"
    private void boundCountsEdgesBetweenPartAndW() {
        for (int m = 0; m <= 14; m++) {
            FactorDesk x = Desks.bundle(m, 0, 1);
            due.same("half of " + m + " edges to W", x.bound(0, 2), m / 2);
            due.same("half of a demand and " + m + " edges to W", x.bound(0, 1), (1 + m) / 2);
            due.same(m + " edges to U count nothing", x.bound(2, 0), 1);
        }
        FactorDesk y = Desks.desk(4, new int[] {0, 1, 1, 2, 2, 3, 0, 3, 0, 2}, 1, 1, 1, 1);
        due.same("edges inside a part count nothing", y.bound(0, 0), 2);
        due.same("from one part to W and to U", y.bound(4, 8), 1 + (2 + 1) / 2);
        due.same("from two parts to W", y.bound(0, 5), 1 + (1 + 2) / 2 + (1 + 2) / 2);
    }

    // "in one part when edges lead from one to the other by way of such vertices alone"
    private void partsAreJoinedByTheirOwnVerticesAlone() {
        int[] long9 = {4, 0, 0, 8, 8, 1, 1, 7, 7, 2, 2, 6, 6, 3, 3, 5};
        FactorDesk x = Desks.desk(9, long9, 0, 0, 0, 0, 1, 1, 0, 0, 0);
        due.same("the ends of the longest path are in one part", x.bound(0, 0), 1);
        for (int v : new int[] {0, 8, 1, 7, 2, 6, 3}) {
            due.same("U = {" + v + "} parts them", x.bound(1 << v, 0), 0);
            due.same("W = {" + v + "} parts them", x.bound(0, 1 << v), 2);
        }
        FactorDesk ring = Desks.desk(4, new int[] {0, 1, 1, 2, 2, 3, 3, 0}, 1, 0, 1, 0);
        due.same("there is another way round", ring.bound(2, 0), 1);
        due.same("both ways are barred", ring.bound(10, 0), 0);
        due.same("both ways are barred, by U and by W", ring.bound(2, 8), 2);
    }

    private void thereMayBeNoPartOrNine() {
        FactorDesk x = Desks.ring(9, 0, 1);
        due.same("nine parts", x.bound(0, 0), 0);
        x.ask(8, 14);
        due.same("nine parts, of which one counts", x.bound(0, 0), 7);
        due.same("no part", x.bound(ALL_VERTICES, 0), 8 + 14);
        due.same("no part, all in W", x.bound(0, ALL_VERTICES), 0);
        due.same("no part, in U and in W", x.bound(256, 255), 14);
    }

    // "(No fair set has more edges than any bound, and some bound is as many as the best set has.)"
    private void someBoundIsMetAndNoneExceeded() {
        for (int d = 0; d <= 14; d++) {
            for (int m = 0; m <= 14; m += 7) {
                leastBound(d + " asked, " + m + " edges of nine vertices", 9, m, d);
                leastBound(d + " asked, " + m + " edges of five vertices", 5, m, d);
                leastBound(d + " asked, " + m + " edges of two vertices", 2, m, d);
            }
        }
    }

    private void leastBound(String name, int n, int m, int d) {
        FactorDesk x = Desks.ring(n, m, d);
        int most = x.most();
        int least = Integer.MAX_VALUE;
        int asked = 0;
        for (int u = 0; u < 1 << n; u++) {
            for (int w = 0; w < 1 << n; w++) {
                if ((u & w) == 0) {
                    least = Math.min(least, x.bound(u, w));
                    asked++;
                    // One object is good for 512 calls.
                    x = asked % 400 == 0 ? Desks.ring(n, m, d) : x;
                }
            }
        }
        due.same("the least bound: " + name, least, most);
    }
}
