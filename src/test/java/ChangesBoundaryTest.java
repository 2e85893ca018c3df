/** The boundaries that promises 1 to 9 name: the graph as it is made, changed and looked at. */
public final class ChangesBoundaryTest {
    private static final int NONE = FactorDesk.NONE;

    private final Due due = new Due("ChangesBoundaryTest");

    public static void main(String[] args) {
        ChangesBoundaryTest test = new ChangesBoundaryTest();
        test.aNewObjectHasOneVertexAndNoEdges();
        test.eachNewObjectIsNew();
        test.beginTakesOneToNine();
        test.beginLeavesNoEdges();
        test.beginLeavesNoDemands();
        test.beginRefusesOthers();
        test.edgeIsPutBehindTheOthers();
        test.edgeRefusesAFifteenth();
        test.edgeTakesAnyTwoDifferentVertices();
        test.edgeRefusesOthersThanVertices();
        test.dropTakesAnyEdge();
        test.dropNumbersThoseBehindOneLess();
        test.dropRefusesOthers();
        test.askTakesZeroToFourteenOfAnyVertex();
        test.askRefusesOthersThanVertices();
        test.askRefusesOtherDemands();
        test.verticesIsN();
        test.edgesIsTheirNumber();
        test.endTellsFirstAndSecond();
        test.endKnowsNoOtherEdges();
        test.endKnowsNoOtherEnds();
        test.demandIsThatOfTheVertex();
        test.demandKnowsNoOtherVertices();
        test.due.close();
    }

    // Promise 1, "One vertex, no edges."
    private void aNewObjectHasOneVertexAndNoEdges() {
        looksNew("a new object", new FactorDesk(), 1);
        due.same("first call vertices", new FactorDesk().vertices(), 1);
        due.same("first call edges", new FactorDesk().edges(), 0);
        due.same("first call edge(0, 0)", new FactorDesk().edge(0, 0), NONE);
        due.same("first call edge(0, 1)", new FactorDesk().edge(0, 1), NONE);
        due.refused("first call drop(0)", new FactorDesk().drop(0));
        due.refused("first call ask(1, 0)", new FactorDesk().ask(1, 0));
        due.holds("first call ask(0, 14)", new FactorDesk().ask(0, 14));
    }

    private void eachNewObjectIsNew() {
        FactorDesk full = Desks.ring(9, 14, 14);
        due.same("the full one", full.most(), 14);
        looksNew("a new object beside a full one", new FactorDesk(), 1);
        due.same("the full one still", full.vertices() * 100 + full.edges(), 914);
    }

    /** All that can be asked of n vertices without edges or demands. */
    private void looksNew(String name, FactorDesk x, int n) {
        int all = (1 << n) - 1;
        due.same(name + ", vertices", x.vertices(), n);
        due.same(name + ", edges", x.edges(), 0);
        due.same(name + ", most", x.most(), 0);
        due.same(name + ", best", x.best(), 0);
        due.same(name + ", factor", x.factor(), 0);
        due.same(name + ", judge(0)", x.judge(0), 2);
        due.same(name + ", judge(1)", x.judge(1), NONE);
        due.same(name + ", witness(0)", x.witness(0), 0);
        due.same(name + ", witness(1)", x.witness(1), 0);
        due.same(name + ", no U and W", x.bound(0, 0), 0);
        due.same(name + ", all in U", x.bound(all, 0), 0);
        due.same(name + ", all in W", x.bound(0, all), 0);
        due.same(name + ", too many in U", x.bound(all + 1, 0), NONE);
        due.same(name + ", too many in W", x.bound(0, all + 1), NONE);
        due.same(name + ", end(0, 0)", x.end(0, 0), NONE);
        due.same(name + ", end(0, 1)", x.end(0, 1), NONE);
        due.same(name + ", role(0)", x.role(0), NONE);
        for (int v = 0; v <= n; v++) {
            int answer = v < n ? 0 : NONE;
            due.same(name + ", demand(" + v + ")", x.demand(v), answer);
            due.same(name + ", slack(" + v + ")", x.slack(v), answer);
            due.same(name + ", gain(" + v + ")", x.gain(v), answer);
        }
    }

    // Promise 2, "A new graph of n vertices", "Answers true"
    private void beginTakesOneToNine() {
        for (int n = 1; n <= 9; n++) {
            FactorDesk x = new FactorDesk();
            due.holds("begin(" + n + ") of a new object", x.begin(n));
            looksNew("begun with " + n, x, n);
            due.holds("begin(" + n + ") once more", x.begin(n));
            looksNew("begun twice with " + n, x, n);
        }
    }

    // Promise 2, "without edges"
    private void beginLeavesNoEdges() {
        for (int n = 1; n <= 9; n++) {
            FactorDesk x = Desks.ring(9, 14, 14);
            due.same("before, most", x.most(), 14);
            due.same("before, W", x.witness(1), 511);
            due.holds("begin(" + n + ") of a full graph", x.begin(n));
            looksNew("full, then begun with " + n, x, n);
            if (n > 1) {
                due.same("numbers from 0 on again", x.edge(n - 1, 0), 0);
                due.same("judge knows one edge", x.judge(2), NONE);
            }
        }
    }

    // Promise 2, "all demands 0"
    private void beginLeavesNoDemands() {
        for (int n = 1; n <= 9; n++) {
            FactorDesk x = Desks.ring(9, 0, 14);
            due.same("before, bound", x.bound(511, 0), 126);
            x.begin(n);
            looksNew("all asked for 14, then begun with " + n, x, n);
            x.begin(9);
            looksNew("begun with " + n + " in between", x, 9);
        }
        FactorDesk same = Desks.ring(4, 4, 3);
        same.begin(4);
        looksNew("begun again with as many", same, 4);
    }

    // Promise 2, "false when n is not 1 .. 9"
    private void beginRefusesOthers() {
        for (int n : Desks.outside(10)) {
            FactorDesk x = Desks.ring(3, 4, 2);
            due.refused("begin(" + n + ")", x.begin(n));
            due.same("vertices", x.vertices(), 3);
            due.same("edges", x.edges(), 4);
            due.same("demand", x.demand(2), 2);
        }
        FactorDesk x = Desks.ring(3, 4, 2);
        due.refused("begin(0)", x.begin(0));
        due.same("after begin(0), vertices and edges", x.vertices() * 10 + x.edges(), 34);
        looksNewAfterRefusal();
    }

    private void looksNewAfterRefusal() {
        FactorDesk x = new FactorDesk();
        for (int n : new int[] {0, -1, 10, Desks.LOWEST, Desks.HIGHEST}) {
            due.refused("begin(" + n + ") of a new object", x.begin(n));
        }
        looksNew("refused begin", x, 1);
    }

    // Promise 3, "One more edge, behind the others. Answers its number"
    private void edgeIsPutBehindTheOthers() {
        for (int gone = 0; gone < 14; gone++) {
            FactorDesk x = Desks.ring(9, 14, 0);
            x.drop(gone);
            due.same("number after drop(" + gone + ")", x.edge(8, 3), 13);
            due.same("first end", x.end(13, 0), 8);
            due.same("second end", x.end(13, 1), 3);
            due.same("the one before it", x.end(12, 0), gone == 13 ? 12 % 9 : 13 % 9);
        }
    }

    // Promise 3, "NONE when there are 14"
    private void edgeRefusesAFifteenth() {
        for (int n = 2; n <= 9; n++) {
            FactorDesk x = Desks.ring(n, 13, 1);
            due.same("the fourteenth", x.edge(n - 1, 0), 13);
            for (int a = 0; a < n; a++) {
                due.same("a fifteenth", x.edge(a, (a + 1) % n), NONE);
            }
            due.same("a fifteenth of no vertices", x.edge(-1, n), NONE);
            due.same("14 of " + n, x.edges(), 14);
            due.same("the fourteenth as it was", x.end(13, 0) * 10 + x.end(13, 1), (n - 1) * 10);
            due.same("no end of a fifteenth", x.end(14, 0), NONE);
            x.drop(0);
            due.same("room for one", x.edge(0, 1), 13);
            due.same("and for no other", x.edge(0, 1), NONE);
        }
    }

    // Promise 3, "or a and b are not two different vertices": such as are
    private void edgeTakesAnyTwoDifferentVertices() {
        for (int n = 1; n <= 9; n++) {
            FactorDesk x = Desks.desk(n, new int[0]);
            for (int i = 0; i < n * n; i++) {
                int a = i / n;
                int b = i % n;
                due.same("edge(" + a + ", " + b + ") of " + n, x.edge(a, b), a == b ? NONE : 0);
                due.same("its first end", x.end(0, 0), a == b ? NONE : a);
                due.same("its second end", x.end(0, 1), a == b ? NONE : b);
                due.same("it goes again", x.drop(0) ? 1 : 0, a == b ? 0 : 1);
            }
        }
    }

    // Promise 3, "or a and b are not two different vertices": such as are not
    private void edgeRefusesOthersThanVertices() {
        for (int n = 1; n <= 9; n++) {
            FactorDesk x = Desks.desk(n, new int[0]);
            for (int w : Desks.outside(n)) {
                due.same("edge(" + w + ", 0) of " + n, x.edge(w, 0), NONE);
                due.same("edge(0, " + w + ") of " + n, x.edge(0, w), NONE);
                due.same("edge(" + w + ", " + (n - 1) + ") of " + n, x.edge(w, n - 1), NONE);
                due.same("edge(" + (n - 1) + ", " + w + ") of " + n, x.edge(n - 1, w), NONE);
                due.same("edge(" + w + ", " + w + ") of " + n, x.edge(w, w), NONE);
                due.same("edge(" + w + ", " + (w + 1) + ") of " + n, x.edge(w, w == -1 ? n : w + 1), NONE);
            }
            due.same("no edge came of it", x.edges(), 0);
        }
        FactorDesk less = Desks.desk(9, new int[0]);
        less.begin(4);
        due.same("vertices of the graph before", less.edge(3, 4), NONE);
        due.same("the last two that are left", less.edge(3, 2), 0);
    }

    // Promise 4, "An edge goes", "Answers true"
    private void dropTakesAnyEdge() {
        for (int m = 1; m <= 14; m++) {
            for (int e = 0; e < m; e++) {
                FactorDesk x = Desks.ring(5, m, 2);
                due.holds("drop(" + e + ") of " + m, x.drop(e));
                due.same("one less", x.edges(), m - 1);
                due.same("vertices stay", x.vertices(), 5);
                due.same("demands stay", x.bound(31, 0), 10);
            }
        }
    }

    // Promise 4, "those behind it are each numbered one less"
    private void dropNumbersThoseBehindOneLess() {
        for (int m = 1; m <= 14; m++) {
            for (int e = 0; e < m; e++) {
                FactorDesk x = Desks.ring(5, m, 2);
                x.drop(e);
                for (int i = 0; i < m - 1; i++) {
                    int was = i < e ? i : i + 1;
                    due.same("after drop(" + e + ") of " + m + ", end(" + i + ", 0)", x.end(i, 0), was % 5);
                    due.same("after drop(" + e + ") of " + m + ", end(" + i + ", 1)", x.end(i, 1), (was + 1) % 5);
                }
                due.same("the last number is gone", x.end(m - 1, 0), NONE);
            }
        }
    }

    // Promise 4, "false when there is none such"
    private void dropRefusesOthers() {
        for (int m = 0; m <= 14; m++) {
            FactorDesk x = Desks.ring(5, m, 2);
            for (int e : Desks.outside(m)) {
                due.refused("drop(" + e + ") of " + m, x.drop(e));
            }
            due.same("all there", x.edges(), m);
            for (int e = 0; e < m; e++) {
                due.same("end(" + e + ", 0)", x.end(e, 0), e % 5);
                due.same("end(" + e + ", 1)", x.end(e, 1), (e + 1) % 5);
            }
            for (int left = m; left > 0; left--) {
                due.refused("drop(" + left + ") of " + left, x.drop(left));
                due.holds("drop of the last of " + left, x.drop(left - 1));
            }
            due.refused("drop(0) of none", x.drop(0));
            due.same("none left", x.edges(), 0);
        }
    }

    // Promise 5, "The demand of a vertex becomes d. Answers true"
    private void askTakesZeroToFourteenOfAnyVertex() {
        for (int n = 1; n <= 9; n++) {
            for (int v = 0; v < n; v++) {
                FactorDesk x = Desks.ring(n, 0, 7);
                for (int d = 0; d <= 14; d++) {
                    due.holds("ask(" + v + ", " + d + ") of " + n, x.ask(v, d));
                    due.same("demand(" + v + ")", x.demand(v), d);
                    due.same("with the others'", x.bound((1 << n) - 1, 0), 7 * (n - 1) + d);
                }
                due.holds("the same once more", x.ask(v, 14) && x.demand(v) == 14);
            }
        }
    }

    // Promise 5, "false when there is none such"
    private void askRefusesOthersThanVertices() {
        for (int n = 1; n <= 9; n++) {
            FactorDesk x = Desks.ring(n, 0, 7);
            for (int v : Desks.outside(n)) {
                due.refused("ask(" + v + ", 0) of " + n, x.ask(v, 0));
                due.refused("ask(" + v + ", 14) of " + n, x.ask(v, 14));
                due.refused("ask(" + v + ", 15) of " + n, x.ask(v, 15));
            }
            for (int v = 0; v < n; v++) {
                due.same("as before", x.demand(v), 7);
            }
            x.begin(9);
            for (int v = 0; v < 9; v++) {
                due.same("nothing is kept for later", x.demand(v), 0);
            }
        }
    }

    // Promise 5, "or d is not 0 .. 14"
    private void askRefusesOtherDemands() {
        for (int n = 1; n <= 9; n++) {
            for (int v = 0; v < n; v++) {
                FactorDesk x = Desks.ring(n, 0, 7);
                for (int d : Desks.outside(15)) {
                    due.refused("ask(" + v + ", " + d + ") of " + n, x.ask(v, d));
                    due.same("as before", x.demand(v), 7);
                }
                due.same("all as before", x.bound((1 << n) - 1, 0), 7 * n);
            }
        }
    }

    // Promise 6, "N."
    private void verticesIsN() {
        FactorDesk x = new FactorDesk();
        for (int n = 9; n >= 1; n--) {
            x.begin(n);
            due.same("vertices of " + n, x.vertices(), n);
            x.edge(0, n - 1);
            x.ask(n - 1, 14);
            x.drop(0);
            x.begin(10);
            x.begin(0);
            due.same("vertices of " + n + " still", x.vertices(), n);
        }
    }

    // Promise 7, "How many edges there are."
    private void edgesIsTheirNumber() {
        FactorDesk x = new FactorDesk();
        due.same("none in a new object", x.edges(), 0);
        x.begin(2);
        for (int m = 1; m <= 14; m++) {
            x.edge(0, 1);
            due.same("up to " + m, x.edges(), m);
        }
        x.edge(0, 1);
        due.same("no fifteenth", x.edges(), 14);
        for (int m = 13; m >= 0; m--) {
            x.drop(m / 2);
            due.same("down to " + m, x.edges(), m);
        }
        x.drop(0);
        due.same("not below 0", x.edges(), 0);
    }

    // Promise 8, "which = 0 the first that was told, 1 the second"
    private void endTellsFirstAndSecond() {
        for (int m = 1; m <= 14; m++) {
            FactorDesk x = Desks.desk(9, new int[0]);
            for (int e = 0; e < m; e++) {
                x.edge(e % 2 == 0 ? 8 : e / 2, e % 2 == 0 ? e / 2 : 8);
            }
            for (int e = 0; e < m; e++) {
                due.same("end(" + e + ", 0) of " + m, x.end(e, 0), e % 2 == 0 ? 8 : e / 2);
                due.same("end(" + e + ", 1) of " + m, x.end(e, 1), e % 2 == 0 ? e / 2 : 8);
            }
        }
    }

    // Promise 8, "NONE when there is none such": no such edge
    private void endKnowsNoOtherEdges() {
        for (int m = 0; m <= 14; m++) {
            FactorDesk x = Desks.ring(5, m, 1);
            for (int e : Desks.outside(m)) {
                due.same("end(" + e + ", 0) of " + m, x.end(e, 0), NONE);
                due.same("end(" + e + ", 1) of " + m, x.end(e, 1), NONE);
                due.same("end(" + e + ", 2) of " + m, x.end(e, 2), NONE);
            }
        }
        FactorDesk less = Desks.ring(5, 14, 1);
        less.drop(13);
        due.same("a number that is free again", less.end(13, 0), NONE);
        less.begin(5);
        due.same("of the graph before", less.end(0, 1), NONE);
    }

    // Promise 8, "NONE when there is none such": no such end
    private void endKnowsNoOtherEnds() {
        for (int m = 1; m <= 14; m++) {
            FactorDesk x = Desks.ring(5, m, 1);
            for (int which : Desks.outside(2)) {
                due.same("end(0, " + which + ") of " + m, x.end(0, which), NONE);
                due.same("end(" + (m - 1) + ", " + which + ")", x.end(m - 1, which), NONE);
            }
        }
    }

    // Promise 9, "The demand of a vertex"
    private void demandIsThatOfTheVertex() {
        FactorDesk x = Desks.desk(9, new int[0], 14, 0, 13, 1, 12, 2, 11, 3, 14);
        int[] asked = {14, 0, 13, 1, 12, 2, 11, 3, 14};
        for (int v = 0; v < 9; v++) {
            due.same("demand(" + v + ")", x.demand(v), asked[v]);
        }
    }

    // Promise 9, "NONE when there is none such"
    private void demandKnowsNoOtherVertices() {
        for (int n = 1; n <= 9; n++) {
            FactorDesk x = Desks.ring(9, 14, 14);
            x.begin(n);
            due.same("the last of " + n, x.demand(n - 1), 0);
            for (int v : Desks.outside(n)) {
                due.same("demand(" + v + ") of " + n, x.demand(v), NONE);
            }
        }
    }
}
