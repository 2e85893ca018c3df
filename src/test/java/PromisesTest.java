/** Each promise of the document by hand-made examples: ordinary inputs, edges, and wrong inputs. */
public final class PromisesTest {
    private static final int NONE = FactorDesk.NONE;
    private static final int LOWEST = Desks.LOWEST;
    private static final int HIGHEST = Desks.HIGHEST;

    private final Due due = new Due("PromisesTest");

    public static void main(String[] args) {
        PromisesTest test = new PromisesTest();
        test.promise1NewObject();
        test.promise2Begin();
        test.promise3Edge();
        test.promise4Drop();
        test.promise5Ask();
        test.promise6Vertices();
        test.promise7Edges();
        test.promise8End();
        test.promise9Demand();
        test.promise10Judge();
        test.promise11Most();
        test.promise12Best();
        test.promise13Factor();
        test.promise14Role();
        test.promise15Slack();
        test.promise16Gain();
        test.promise17Bound();
        test.promise18Witness();
        test.changesAreSeenAtOnce();
        test.refusedCallsChangeNothing();
        test.objectsAreApart();
        test.questionsChangeNothing();
        test.due.close();
    }

    private void promise1NewObject() {
        FactorDesk x = new FactorDesk();
        due.same("1: vertices", x.vertices(), 1);
        due.same("1: edges", x.edges(), 0);
        due.same("1: demand(0)", x.demand(0), 0);
        due.same("1: demand(1)", x.demand(1), NONE);
        due.same("1: most", x.most(), 0);
        due.same("1: best", x.best(), 0);
        due.same("1: factor", x.factor(), 0);
        due.same("1: judge(0)", x.judge(0), 2);
        due.same("1: slack(0)", x.slack(0), 0);
        due.same("1: gain(0)", x.gain(0), 0);
        due.same("1: bound(1, 0)", x.bound(1, 0), 0);
        due.same("1: witness(0)", x.witness(0), 0);
        due.same("1: witness(1)", x.witness(1), 0);
        due.same("1: NONE", NONE, -1);
    }

    private void promise2Begin() {
        FactorDesk x = Desks.triangle(1, 2, 3);
        for (int n : new int[] {0, -1, 10, LOWEST, HIGHEST}) {
            due.refused("2: begin(" + n + ")", x.begin(n));
            due.same("2: refused, vertices", x.vertices(), 3);
            due.same("2: refused, edges", x.edges(), 3);
            due.same("2: refused, demand(2)", x.demand(2), 3);
        }
        for (int n = 1; n <= 9; n++) {
            x.ask(0, 5);
            x.edge(0, 1);
            due.holds("2: begin(" + n + ")", x.begin(n));
            due.same("2: vertices", x.vertices(), n);
            due.same("2: edges", x.edges(), 0);
            due.same("2: most", x.most(), 0);
            for (int v = 0; v < n; v++) {
                due.same("2: demand(" + v + ")", x.demand(v), 0);
                x.ask(v, 7);
            }
        }
        due.holds("2: begin again", x.begin(9) && x.demand(8) == 0 && x.demand(0) == 0);
    }

    private void promise3Edge() {
        FactorDesk x = new FactorDesk();
        due.same("3: no two vertices", x.edge(0, 1), NONE);
        x.begin(3);
        int[][] wrong = {{0, 0}, {2, 2}, {-1, 0}, {0, -1}, {3, 0}, {0, 3}, {3, 3}, {LOWEST, 1}, {1, HIGHEST}};
        for (int[] pair : wrong) {
            due.same("3: edge(" + pair[0] + ", " + pair[1] + ")", x.edge(pair[0], pair[1]), NONE);
        }
        due.same("3: none came of it", x.edges(), 0);
        for (int e = 0; e < 14; e++) {
            due.same("3: edge " + e, x.edge(e % 3, (e + 1) % 3), e);
        }
        due.same("3: a fifteenth", x.edge(0, 1), NONE);
        due.same("3: still 14", x.edges(), 14);
        due.same("3: the last as it was", x.end(13, 0) * 10 + x.end(13, 1), 12);
        due.holds("3: room again", x.drop(3));
        due.same("3: behind the others", x.edge(2, 1), 13);
        due.same("3: and its ends", x.end(13, 0) * 10 + x.end(13, 1), 21);
    }

    private void promise4Drop() {
        FactorDesk x = Desks.desk(4, new int[] {0, 1, 1, 2, 3, 2, 0, 3}, 1, 2, 3, 4);
        for (int e : new int[] {-1, 4, 14, 32, LOWEST, HIGHEST}) {
            due.refused("4: drop(" + e + ")", x.drop(e));
        }
        due.same("4: all there", x.edges(), 4);
        due.holds("4: drop(1)", x.drop(1));
        due.same("4: one less", x.edges(), 3);
        int[] ends = {0, 1, 3, 2, 0, 3};
        for (int i = 0; i < 6; i++) {
            due.same("4: end " + i, x.end(i / 2, i % 2), ends[i]);
        }
        due.same("4: the demands stay", x.demand(3), 4);
        due.refused("4: the last number is gone", x.drop(3));
        due.holds("4: the last", x.drop(2));
        due.holds("4: the first", x.drop(0));
        due.same("4: who is left", x.end(0, 0) * 10 + x.end(0, 1), 32);
        due.holds("4: the only one", x.drop(0));
        due.refused("4: none left", x.drop(0));
    }

    private void promise5Ask() {
        FactorDesk x = Desks.desk(3, new int[] {0, 1}, 4, 5, 6);
        for (int v : new int[] {-1, 3, 9, LOWEST, HIGHEST}) {
            due.refused("5: ask(" + v + ", 1)", x.ask(v, 1));
        }
        for (int d : new int[] {-1, 15, LOWEST, HIGHEST}) {
            due.refused("5: ask(1, " + d + ")", x.ask(1, d));
        }
        due.same("5: as it was", x.demand(0) * 100 + x.demand(1) * 10 + x.demand(2), 456);
        for (int d = 0; d <= 14; d++) {
            due.holds("5: ask(1, " + d + ")", x.ask(1, d));
            due.same("5: demand(1)", x.demand(1), d);
        }
        due.same("5: the others", x.demand(0) * 10 + x.demand(2), 46);
        due.same("5: the edges stay", x.edges(), 1);
    }

    private void promise6Vertices() {
        FactorDesk x = new FactorDesk();
        due.same("6: at first", x.vertices(), 1);
        x.begin(7);
        x.edge(0, 6);
        x.ask(3, 3);
        due.same("6: after begin(7)", x.vertices(), 7);
    }

    private void promise7Edges() {
        FactorDesk x = new FactorDesk();
        due.same("7: at first", x.edges(), 0);
        x.begin(2);
        x.edge(0, 1);
        x.edge(1, 0);
        due.same("7: two", x.edges(), 2);
        x.drop(0);
        due.same("7: one", x.edges(), 1);
        x.begin(2);
        due.same("7: begun anew", x.edges(), 0);
    }

    private void promise8End() {
        FactorDesk x = Desks.desk(9, new int[] {8, 2, 2, 8});
        due.same("8: end(0, 0)", x.end(0, 0), 8);
        due.same("8: end(0, 1)", x.end(0, 1), 2);
        due.same("8: end(1, 0)", x.end(1, 0), 2);
        due.same("8: end(1, 1)", x.end(1, 1), 8);
        for (int k : new int[] {-1, 2, 14, LOWEST, HIGHEST}) {
            due.same("8: end(" + k + ", 0)", x.end(k, 0), NONE);
            due.same("8: end(" + k + ", 1)", x.end(k, 1), NONE);
            due.same("8: end(0, " + k + ")", x.end(0, k), NONE);
        }
        x.begin(9);
        due.same("8: gone with begin", x.end(0, 0), NONE);
    }

    private void promise9Demand() {
        FactorDesk x = Desks.desk(2, new int[0], 14, 3);
        due.same("9: demand(0)", x.demand(0), 14);
        due.same("9: demand(1)", x.demand(1), 3);
        for (int v : new int[] {-1, 2, 8, 9, LOWEST, HIGHEST}) {
            due.same("9: demand(" + v + ")", x.demand(v), NONE);
        }
    }

    private void promise10Judge() {
        FactorDesk x = Desks.triangle(2, 1, 1);
        int[] verdicts = {1, 1, 1, 0, 1, 2, 0, 0};
        for (int set = 0; set < 8; set++) {
            due.same("10: judge(" + set + ")", x.judge(set), verdicts[set]);
        }
        for (int set : new int[] {-1, 8, 9, 1 << 14, 1 << 30, LOWEST, HIGHEST}) {
            due.same("10: judge(" + set + ")", x.judge(set), NONE);
        }
        FactorDesk full = Desks.bundle(14, 14, 14);
        due.same("10: all fourteen", full.judge((1 << 14) - 1), 2);
        due.same("10: one beyond", full.judge(1 << 14), NONE);
        due.same("10: all of a star", Desks.star(3, 1).judge(7), 2);
        due.same("10: a vertex without edges asks", Desks.desk(3, new int[] {0, 1}, 1, 1, 1).judge(1), 1);
        due.same("10: nobody asks", Desks.desk(2, new int[] {0, 1}).judge(0), 2);
        due.same("10: more than nothing", Desks.desk(2, new int[] {0, 1}).judge(1), 0);
    }

    private void promise11Most() {
        due.same("11: triangle of ones", Desks.triangle(1, 1, 1).most(), 1);
        due.same("11: triangle of twos", Desks.triangle(2, 2, 2).most(), 3);
        due.same("11: greed would have two", Desks.desk(4, new int[] {1, 2, 0, 1, 2, 3}, 1, 1, 1, 1).most(), 2);
        due.same("11: star", Desks.star(2, 5).most(), 2);
        due.same("11: all of a bundle", Desks.bundle(14, 14, 14).most(), 14);
        due.same("11: part of a bundle", Desks.bundle(14, 14, 5).most(), 5);
        due.same("11: nobody asks", Desks.triangle(0, 0, 0).most(), 0);
        int[] hubs = {0, 2, 1, 2, 0, 3, 1, 3, 0, 4, 1, 4, 0, 5, 1, 5, 0, 6, 1, 6, 0, 7, 1, 7, 0, 8, 1, 8};
        due.same("11: two hubs", Desks.desk(9, hubs, 3, 3, 4, 3, 6, 3, 6, 3, 4).most(), 6);
        int[] twoTriangles = {0, 1, 1, 2, 2, 0, 2, 3, 3, 4, 4, 5, 5, 3};
        due.same("11: two triangles", Desks.desk(6, twoTriangles, 1, 1, 1, 1, 1, 1).most(), 3);
    }

    private void promise12Best() {
        due.same("12: the least number first", Desks.triangle(1, 1, 1).best(), 1);
        due.same("12: not the greedy one", Desks.desk(4, new int[] {1, 2, 0, 1, 2, 3}, 1, 1, 1, 1).best(), 6);
        due.same("12: first of a bundle", Desks.bundle(14, 2, 3).best(), 3);
        int[] square = {0, 1, 2, 3, 1, 2, 3, 0};
        due.same("12: first of two", Desks.desk(4, square, 1, 1, 1, 1).best(), 3);
        // {0, 3} (9) comes before {1, 2} (6) in ORDER, though its number is greater.
        int[] crossed = {0, 1, 1, 2, 3, 0, 2, 3};
        due.same("12: ORDER is not that of numbers", Desks.desk(4, crossed, 1, 1, 1, 1).best(), 9);
        due.same("12: empty", Desks.triangle(5, 0, 0).best(), 0);
    }

    private void promise13Factor() {
        due.same("13: an odd sum", Desks.triangle(1, 1, 1).factor(), NONE);
        due.same("13: triangle", Desks.triangle(2, 1, 1).factor(), 5);
        due.same("13: all of it", Desks.triangle(2, 2, 2).factor(), 7);
        due.same("13: too much asked", Desks.triangle(2, 2, 4).factor(), NONE);
        due.same("13: nobody asks", Desks.triangle(0, 0, 0).factor(), 0);
        int[] crossed = {0, 1, 1, 2, 3, 0, 2, 3};
        due.same("13: the first in ORDER", Desks.desk(4, crossed, 1, 1, 1, 1).factor(), 9);
        due.same("13: a vertex without edges", Desks.desk(3, new int[] {0, 1}, 1, 1, 1).factor(), NONE);
        due.same("13: it asks for none", Desks.desk(3, new int[] {0, 1}, 1, 1, 0).factor(), 1);
        int[] twoTriangles = {0, 1, 1, 2, 2, 0, 3, 4, 4, 5, 5, 3};
        due.same("13: even, but not in parts", Desks.desk(6, twoTriangles, 1, 1, 1, 1, 1, 1).factor(), NONE);
    }

    private void promise14Role() {
        FactorDesk x = Desks.triangle(2, 1, 1);
        due.same("14: in all", x.role(0), 2);
        due.same("14: in none", x.role(1), 0);
        due.same("14: in all, the last", x.role(2), 2);
        for (int e : new int[] {-1, 3, 14, 32, LOWEST, HIGHEST}) {
            due.same("14: role(" + e + ")", x.role(e), NONE);
        }
        FactorDesk bundle = Desks.bundle(3, 2, 2);
        for (int e = 0; e < 3; e++) {
            due.same("14: of a bundle " + e, bundle.role(e), 1);
            due.same("14: one is not asked " + e, Desks.bundle(3, 0, 2).role(e), 0);
            due.same("14: all of a bundle " + e, Desks.bundle(3, 3, 3).role(e), 2);
        }
        FactorDesk path = Desks.desk(4, new int[] {1, 2, 0, 1, 2, 3}, 1, 1, 1, 1);
        due.same("14: the middle of a path", path.role(0), 0);
        due.same("14: an outer one", path.role(1), 2);
    }

    private void promise15Slack() {
        FactorDesk x = Desks.bundle(6, 9, 4);
        due.same("15: what is too much", x.slack(0), 5);
        due.same("15: what is needed", x.slack(1), 0);
        for (int v : new int[] {-1, 2, 9, LOWEST, HIGHEST}) {
            due.same("15: slack(" + v + ")", x.slack(v), NONE);
        }
        FactorDesk star = Desks.star(2, 1);
        due.same("15: the middle", star.slack(0), 0);
        due.same("15: who can be spared, though in the best set", star.slack(1), 1);
        due.same("15: all of it", Desks.triangle(14, 0, 0).slack(0), 14);
        due.same("15: none asked", Desks.triangle(0, 2, 2).slack(0), 0);
        // Without the edge between 0 and 2 the others are a ring of four.
        FactorDesk ring = Desks.desk(4, new int[] {0, 1, 0, 2, 0, 3, 1, 2, 2, 3}, 3, 2, 2, 2);
        due.same("15: one edge less", ring.slack(0), 1);
        FactorDesk shared = Desks.desk(3, new int[] {0, 1, 0, 1, 2, 1, 2, 1}, 2, 2, 2);
        due.same("15: another can stand in for both", shared.slack(0), 2);
        due.same("15: demand stays", shared.demand(0), 2);
    }

    private void promise16Gain() {
        FactorDesk x = Desks.bundle(6, 9, 4);
        due.same("16: no use", x.gain(0), 0);
        due.same("16: one more", x.gain(1), 1);
        for (int v : new int[] {-1, 2, 9, LOWEST, HIGHEST}) {
            due.same("16: gain(" + v + ")", x.gain(v), NONE);
        }
        due.same("16: both would have to", Desks.triangle(1, 1, 0).gain(0), 0);
        due.same("16: an odd one out", Desks.triangle(1, 1, 1).gain(2), 1);
        due.same("16: beyond 14", Desks.bundle(14, 14, 14).gain(0), 0);
        due.same("16: from none", Desks.bundle(2, 0, 1).gain(0), 1);
        due.same("16: demand stays", x.demand(1), 4);
        due.same("16: most stays", x.most(), 4);
    }

    private void promise17Bound() {
        FactorDesk x = Desks.desk(5, new int[] {0, 1, 1, 2, 2, 0, 2, 3, 3, 4}, 1, 2, 3, 4, 5);
        due.same("17: one part", x.bound(0, 0), 7);
        due.same("17: all in U", x.bound(31, 0), 15);
        due.same("17: all in W", x.bound(0, 31), 5);
        due.same("17: U parts the rest", x.bound(4, 0), 3 + 1 + 4);
        due.same("17: W parts the rest, its edges count", x.bound(0, 4), (3 + 2) / 2 + (9 + 1) / 2);
        due.same("17: edges in W", x.bound(0, 6), 1 + (1 + 2) / 2 + (9 + 1) / 2);
        due.same("17: edges between U and W count nothing", x.bound(4, 8), 3 + (3 + 0) / 2 + (5 + 1) / 2);
        int[][] wrong = {{1, 1}, {3, 2}, {31, 16}, {32, 0}, {0, 32}, {-1, 0}, {0, -1}, {-32, 1}, {LOWEST, 0},
            {0, LOWEST}, {HIGHEST, 0}, {0, HIGHEST}, {512, 1}, {1 << 30, 1}};
        for (int[] pair : wrong) {
            due.same("17: bound(" + pair[0] + ", " + pair[1] + ")", x.bound(pair[0], pair[1]), NONE);
        }
        due.same("17: halves are rounded part by part", Desks.desk(4, new int[] {0, 1, 2, 3}, 1, 2, 1, 2).bound(0, 0), 2);
        due.same("17: edges between the same two", Desks.bundle(5, 1, 2).bound(0, 1), 3);
    }

    private void promise18Witness() {
        FactorDesk path = Desks.desk(3, new int[] {1, 2, 2, 0}, 2, 1, 1);
        due.same("18: an empty U, W = {0}", path.witness(0) * 10 + path.witness(1), 1);
        FactorDesk star = Desks.star(1, 1);
        due.same("18: the middle of a star, U", star.witness(0), 1);
        due.same("18: the middle of a star, W", star.witness(1), 0);
        FactorDesk generous = Desks.star(1, 2);
        due.same("18: the outer ones ask too much, U", generous.witness(0), 1);
        due.same("18: the outer ones ask too much, W", generous.witness(1), 14);
        FactorDesk all = Desks.bundle(14, 14, 14);
        due.same("18: all of a bundle", all.witness(0) * 10 + all.witness(1), 0);
        for (int which : new int[] {-1, 2, 3, LOWEST, HIGHEST}) {
            due.same("18: witness(" + which + ")", star.witness(which), NONE);
        }
        due.same("18: all of W", Desks.desk(2, new int[] {0, 1}, 9, 9).witness(1), 3);
        twoStars();
        firstInOrder();
    }

    /** Two stars, whose middles must both be in U. */
    private void twoStars() {
        int[] stars = {0, 1, 0, 2, 0, 4, 3, 5, 3, 6, 3, 7};
        FactorDesk x = Desks.desk(8, stars, 1, 1, 1, 1, 1, 1, 1, 1);
        due.same("18: two middles, U", x.witness(0), 9);
        due.same("18: two middles, W", x.witness(1), 0);
        due.same("18: its bound", x.bound(9, 0), x.most());
    }

    /** Where others of as many vertices, and with a lesser number, have the same bound. */
    private void firstInOrder() {
        FactorDesk x = Desks.desk(5, new int[] {3, 4, 3, 1, 4, 1, 2, 4, 2, 0, 1, 0, 3, 2}, 0, 0, 0, 2, 0);
        due.same("18: {1, 2} and {3} would do", x.bound(6, 8), x.most());
        due.same("18: but U = {0, 4} comes before", x.witness(0), 17);
        due.same("18: with W = {3}", x.witness(1), 8);
        FactorDesk y = Desks.desk(5, new int[] {1, 2, 4, 0, 1, 3, 1, 0}, 1, 2, 2, 2, 2);
        due.same("18: no U and {2, 3} would do", y.bound(0, 12), y.most());
        due.same("18: no U", y.witness(0), 0);
        due.same("18: but W = {1, 4} comes before", y.witness(1), 18);
    }

    private void changesAreSeenAtOnce() {
        FactorDesk x = Desks.star(1, 1);
        due.same("changes: before", x.most() * 100 + x.witness(0) * 10 + x.bound(0, 0), 112);
        x.ask(0, 3);
        due.same("changes: ask", x.most() * 100 + x.witness(0) * 10 + x.bound(0, 0), 303);
        x.drop(1);
        due.same("changes: drop", x.most() * 100 + x.witness(1) * 10 + x.bound(0, 0), 202);
        x.edge(2, 0);
        due.same("changes: edge", x.most() * 100 + x.best(), 307);
        x.begin(4);
        due.same("changes: begin", x.most() * 100 + x.best() * 10 + x.bound(15, 0), 0);
    }

    private void refusedCallsChangeNothing() {
        FactorDesk x = Desks.triangle(2, 1, 1);
        x.begin(0);
        x.begin(10);
        x.edge(0, 0);
        x.edge(0, 3);
        x.drop(3);
        x.drop(-1);
        x.ask(3, 1);
        x.ask(0, 15);
        x.ask(0, -1);
        due.same("refused: vertices", x.vertices(), 3);
        due.same("refused: edges", x.edges(), 3);
        due.same("refused: demands", x.demand(0) * 100 + x.demand(1) * 10 + x.demand(2), 211);
        due.same("refused: best", x.best(), 5);
        due.same("refused: ends", x.end(2, 0) * 10 + x.end(2, 1), 20);
    }

    private void objectsAreApart() {
        FactorDesk a = Desks.triangle(2, 1, 1);
        FactorDesk b = Desks.bundle(4, 3, 3);
        due.same("apart: a", a.best(), 5);
        due.same("apart: b", b.best(), 7);
        b.begin(1);
        due.same("apart: a again", a.vertices() * 10 + a.most(), 32);
    }

    private void questionsChangeNothing() {
        FactorDesk x = Desks.triangle(2, 1, 1);
        for (int i = 0; i < 3; i++) {
            due.same("questions: best", x.best(), 5);
            due.same("questions: role", x.role(1), 0);
            due.same("questions: slack", x.slack(0), 0);
            due.same("questions: gain", x.gain(1), 0);
            due.same("questions: witness", x.witness(0), 0);
            due.same("questions: factor", x.factor(), 5);
            due.same("questions: bound", x.bound(1, 6), 3);
        }
    }
}
