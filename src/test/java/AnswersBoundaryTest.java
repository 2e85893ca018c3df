/** The boundaries that promises 10 to 18 name: what is found out about the graph. */
public final class AnswersBoundaryTest {
    private static final int NONE = FactorDesk.NONE;
    private static final int ALL_EDGES = (1 << 14) - 1;
    private static final int ALL_VERTICES = (1 << 9) - 1;

    private final Due due = new Due("AnswersBoundaryTest");

    public static void main(String[] args) {
        AnswersBoundaryTest test = new AnswersBoundaryTest();
        test.judgeIs2ForAFactor();
        test.judgeIs1ForFairOnly();
        test.judgeIs0ForOthers();
        test.judgeKnowsNoOtherEdges();
        test.judgeKnowsNothingBelow0();
        test.mostIs0To14();
        test.bestIsNoneToAll();
        test.factorMayBeTheEmptySet();
        test.factorMayBeAllEdges();
        test.factorIsNoneWhenOneIsShortOrOver();
        test.factorIsNoneForWhatHasNoEdges();
        test.roleIs2InAllOfThem();
        test.roleIs1InSome();
        test.roleIs0InNone();
        test.roleKnowsNoOtherEdges();
        test.slackIs0To14();
        test.slackIsThatOfOneVertexAlone();
        test.slackKnowsNoOtherVertices();
        test.gainIs0Or1();
        test.gainOfOneWhoAsksFor14();
        test.gainIsThatOfOneVertexAlone();
        test.gainKnowsNoOtherVertices();
        test.boundTakesAnyTwoSetsApart();
        test.boundRefusesSetsWithSomeTogether();
        test.boundRefusesOthersThanVertices();
        test.boundRefusesWhatIsBelow0();
        test.witnessOfTheEmptyGraph();
        test.witnessOfTheFullGraph();
        test.witnessTakesTheFirstUBeforeTheFirstW();
        test.witnessKnowsNoOtherWhich();
        test.due.close();
    }

    // Promise 10, "2 for a factor"
    private void judgeIs2ForAFactor() {
        for (int m = 0; m <= 14; m++) {
            due.same("all " + m + " edges", Desks.bundle(m, m, m).judge((1 << m) - 1), 2);
            due.same("none of " + m + " edges", Desks.bundle(m, 0, 0).judge(0), 2);
        }
        due.same("the empty set of a new object", new FactorDesk().judge(0), 2);
        due.same("of nine vertices", Desks.ring(9, 9, 2).judge(511), 2);
    }

    // Promise 10, "1 for one that is fair only"
    private void judgeIs1ForFairOnly() {
        for (int m = 1; m <= 14; m++) {
            due.same("one less than all " + m, Desks.bundle(m, m, m).judge((1 << m) - 2), 1);
            due.same("none, though one asks", Desks.bundle(m, 1, 0).judge(0), 1);
        }
        for (int v = 0; v < 9; v++) {
            FactorDesk x = Desks.ring(9, 9, 2);
            x.ask(v, 3);
            due.same("vertex " + v + " alone lacks one", x.judge(511), 1);
            FactorDesk none = Desks.desk(9, new int[0]);
            none.ask(v, 1);
            due.same("no edges, and vertex " + v + " asks", none.judge(0), 1);
        }
    }

    // Promise 10, "0 for others"
    private void judgeIs0ForOthers() {
        for (int v = 0; v < 9; v++) {
            FactorDesk x = Desks.ring(9, 9, 2);
            x.ask(v, 1);
            due.same("vertex " + v + " alone has one more", x.judge(511), 0);
            x.ask((v + 4) % 9, 14);
            due.same("and another lacks some", x.judge(511), 0);
        }
        for (int m = 1; m <= 14; m++) {
            due.same("one more than asked", Desks.bundle(m, m - 1, m).judge((1 << m) - 1), 0);
            due.same("nobody asks", Desks.bundle(m, 0, 0).judge(1 << m - 1), 0);
        }
    }

    // Promise 10, "NONE when it has other edges"
    private void judgeKnowsNoOtherEdges() {
        for (int m = 0; m <= 14; m++) {
            FactorDesk x = Desks.bundle(m, 14, 14);
            for (int set : Desks.strangeSets(m)) {
                due.same("judge(" + set + ") of " + m, x.judge(set), NONE);
            }
            due.same("all are known", x.judge((1 << m) - 1), m == 14 ? 2 : 1);
            due.same("none is known", x.judge(0), 1);
        }
        FactorDesk less = Desks.bundle(14, 14, 14);
        less.drop(0);
        due.same("the last number is gone", less.judge(1 << 13), NONE);
        less.begin(2);
        due.same("all are gone", less.judge(1), NONE);
    }

    // Promise 10, "or is below 0"
    private void judgeKnowsNothingBelow0() {
        for (int m : new int[] {0, 1, 13, 14}) {
            FactorDesk x = Desks.bundle(m, 14, 14);
            for (int k = 0; k < 32; k++) {
                due.same("judge(" + (-1 << k) + ") of " + m, x.judge(-1 << k), NONE);
                due.same("judge(" + (Desks.LOWEST | k) + ") of " + m, x.judge(Desks.LOWEST | k), NONE);
            }
        }
    }

    // Promise 11, "How many edges the best set has."
    private void mostIs0To14() {
        for (int n = 1; n <= 9; n++) {
            due.same("no edges, all of " + n + " ask for 14", Desks.ring(n, 0, 14).most(), 0);
        }
        due.same("14 edges, nobody asks", Desks.ring(9, 14, 0).most(), 0);
        due.same("14 edges, one alone asks", Desks.bundle(14, 14, 0).most(), 0);
        for (int n = 2; n <= 9; n++) {
            due.same("all 14 of " + n, Desks.ring(n, 14, 14).most(), 14);
        }
        for (int d = 0; d <= 14; d++) {
            due.same("as many as one asks", Desks.bundle(14, d, 14).most(), d);
            due.same("as many as the other asks", Desks.bundle(14, 14, d).most(), d);
            due.same("as many as there are", Desks.bundle(d, 14, 14).most(), d);
        }
        due.same("nine that ask for one each", Desks.ring(9, 14, 1).most(), 4);
    }

    // Promise 12, "The best set."
    private void bestIsNoneToAll() {
        due.same("of a new object", new FactorDesk().best(), 0);
        for (int n = 2; n <= 9; n++) {
            due.same("all 14 of " + n, Desks.ring(n, 14, 14).best(), ALL_EDGES);
            due.same("none of " + n, Desks.ring(n, 14, 0).best(), 0);
        }
        for (int d = 0; d <= 14; d++) {
            due.same("the first " + d, Desks.bundle(14, d, 14).best(), (1 << d) - 1);
        }
        // Edges 0 .. 12 take what edge 13 and another would share.
        FactorDesk last = Desks.desk(9, new int[0], 1, 1, 1, 1);
        for (int e = 0; e < 13; e++) {
            last.edge(1, 2);
        }
        last.edge(0, 1);
        due.same("the first, not the last", last.best(), 1);
        last.drop(12);
        last.edge(2, 3);
        due.same("the last two, for all their number", last.best(), 1 << 12 | 1 << 13);
    }

    // Promise 13, "The first factor in ORDER": the empty one
    private void factorMayBeTheEmptySet() {
        for (int n = 1; n <= 9; n++) {
            due.same("no edges, nobody asks", Desks.ring(n, 0, 0).factor(), 0);
            due.same("14 edges, nobody asks", Desks.ring(n, 14, 0).factor(), 0);
        }
    }

    private void factorMayBeAllEdges() {
        for (int m = 1; m <= 14; m++) {
            due.same("all " + m, Desks.bundle(m, m, m).factor(), (1 << m) - 1);
        }
        FactorDesk x = Desks.ring(7, 14, 4);
        due.same("all 14 of seven vertices", x.factor(), ALL_EDGES);
        due.same("the first of two rounds", Desks.ring(7, 14, 2).factor(), 127);
    }

    // Promise 13, "NONE when there is none."
    private void factorIsNoneWhenOneIsShortOrOver() {
        for (int v = 0; v < 7; v++) {
            FactorDesk x = Desks.ring(7, 14, 4);
            x.ask(v, 5);
            due.same("vertex " + v + " asks for one more", x.factor(), NONE);
            x.ask(v, 6);
            due.same("vertex " + v + " asks for two more", x.factor(), NONE);
            x.ask(v, 3);
            due.same("vertex " + v + " asks for one less", x.factor(), NONE);
            x.ask(v, 4);
            due.same("as many as there are", x.factor(), ALL_EDGES);
        }
        due.same("one asks for one less than the other", Desks.bundle(14, 14, 13).factor(), NONE);
        due.same("an odd ring of ones", Desks.ring(9, 9, 1).factor(), NONE);
        due.same("an even ring of ones", Desks.ring(8, 8, 1).factor(), 1 | 4 | 16 | 64);
    }

    private void factorIsNoneForWhatHasNoEdges() {
        for (int d = 1; d <= 14; d++) {
            due.same("one vertex asks for " + d, Desks.desk(1, new int[0], d).factor(), NONE);
            due.same("all nine ask for " + d, Desks.ring(9, 0, d).factor(), NONE);
            FactorDesk x = Desks.desk(9, new int[] {0, 1}, 1, 1);
            x.ask(8, d);
            due.same("the ninth asks for " + d, x.factor(), NONE);
        }
    }

    // Promise 14, "2 when it is in all of the largest fair sets"
    private void roleIs2InAllOfThem() {
        for (int m = 1; m <= 14; m++) {
            FactorDesk x = Desks.bundle(m, m, 14);
            for (int e = 0; e < m; e++) {
                due.same("role(" + e + ") of all " + m, x.role(e), 2);
            }
        }
        for (int k = 0; k < 14; k++) {
            FactorDesk x = oneOfUse(k);
            for (int e = 0; e < 14; e++) {
                due.same("role(" + e + "), where " + k + " alone is of use", x.role(e), e == k ? 2 : 0);
            }
        }
    }

    private static FactorDesk oneOfUse(int k) {
        FactorDesk x = Desks.desk(3, new int[0], 1, 1, 0);
        for (int e = 0; e < 14; e++) {
            x.edge(e == k ? 0 : 2, 1);
        }
        return x;
    }

    // Promise 14, "1 when it is in some"
    private void roleIs1InSome() {
        for (int d = 1; d <= 13; d++) {
            FactorDesk x = Desks.bundle(14, d, 14);
            for (int e = 0; e < 14; e++) {
                due.same("role(" + e + ") where " + d + " of 14 will do", x.role(e), 1);
            }
        }
        FactorDesk two = Desks.bundle(2, 1, 1);
        due.same("the one in the best set", two.role(0), 1);
        due.same("the one not in the best set", two.role(1), 1);
    }

    // Promise 14, "0 when it is in none"
    private void roleIs0InNone() {
        for (int m = 1; m <= 14; m++) {
            FactorDesk first = Desks.bundle(m, 0, 14);
            FactorDesk second = Desks.bundle(m, 14, 0);
            for (int e = 0; e < m; e++) {
                due.same("the one end asks for none", first.role(e), 0);
                due.same("the other end asks for none", second.role(e), 0);
            }
        }
        due.same("fair, but not in a largest one", Desks.desk(4, new int[] {0, 1, 1, 2, 2, 3}, 1, 1, 1, 1).role(1), 0);
    }

    // Promise 14, "NONE when there is none such."
    private void roleKnowsNoOtherEdges() {
        for (int m = 0; m <= 14; m++) {
            FactorDesk x = Desks.ring(5, m, 14);
            for (int e : Desks.outside(m)) {
                due.same("role(" + e + ") of " + m, x.role(e), NONE);
            }
        }
        FactorDesk less = Desks.ring(5, 14, 14);
        due.same("the last", less.role(13), 2);
        less.drop(0);
        due.same("its number is gone", less.role(13), NONE);
        less.begin(5);
        due.same("all are gone", less.role(0), NONE);
    }

    // Promise 15, "By how much, at most, the demand of a vertex (it alone) could be less"
    private void slackIs0To14() {
        for (int d = 0; d <= 14; d++) {
            due.same("no edges, all of " + d, Desks.desk(1, new int[0], d).slack(0), d);
            due.same("14 edges, all are needed", Desks.bundle(14, d, 14).slack(0), 0);
            due.same("14 edges, what is too much", Desks.bundle(14, 14, d).slack(0), 14 - d);
            due.same("as many edges as are asked", Desks.bundle(d, 14, 14).slack(1), 14 - d);
            due.same("an edge to one who asks for none", Desks.bundle(1, d, 0).slack(0), d);
        }
        for (int v = 0; v < 9; v++) {
            due.same("any one of an odd ring can be spared", Desks.ring(9, 9, 1).slack(v), 1);
            due.same("all ask for too much", Desks.ring(9, 9, 14).slack(v), 12);
            due.same("nobody asks", Desks.ring(9, 14, 0).slack(v), 0);
        }
        // Its edges may all be in the best set, and yet others may do.
        due.same("all 7 in the best set can be spared", standIn().slack(0), 7);
    }

    /** Seven edges from 0 to 1 come first, and seven from 2 to 1 are as good. */
    private static FactorDesk standIn() {
        FactorDesk x = Desks.desk(3, new int[0], 7, 7, 7);
        for (int e = 0; e < 14; e++) {
            x.edge(e < 7 ? 0 : 2, 1);
        }
        return x;
    }

    private void slackIsThatOfOneVertexAlone() {
        FactorDesk x = standIn();
        due.same("0 can be spared", x.slack(0), 7);
        due.same("and 2 can", x.slack(2), 7);
        due.same("but not 1", x.slack(1), 0);
        due.same("the demands stay", x.bound(7, 0), 21);
        due.same("the best set stays", x.best(), 127);
        x.ask(0, 0);
        due.same("2 can not, without 0", x.slack(2), 0);
        due.same("less than 0 can't be", x.slack(0), 0);
    }

    // Promise 15, "NONE when there is none such."
    private void slackKnowsNoOtherVertices() {
        for (int n = 1; n <= 9; n++) {
            FactorDesk x = Desks.ring(9, 14, 14);
            x.begin(n);
            due.same("the last of " + n, x.slack(n - 1), 0);
            for (int v : Desks.outside(n)) {
                due.same("slack(" + v + ") of " + n, x.slack(v), NONE);
            }
        }
    }

    // Promise 16, "How many edges more the best set would have, if the demand .. were greater by one"
    private void gainIs0Or1() {
        for (int d = 0; d <= 14; d++) {
            due.same("no edges", Desks.desk(1, new int[0], d).gain(0), 0);
            due.same("14 edges, as long as there are more", Desks.bundle(14, d, 14).gain(0), d < 14 ? 1 : 0);
            due.same("where the other asks for no more", Desks.bundle(14, d, d).gain(0), 0);
            due.same("where there are no more edges", Desks.bundle(d, d, 14).gain(0), 0);
        }
        for (int v = 0; v < 9; v++) {
            due.same("an odd ring of ones", Desks.ring(9, 9, 1).gain(v), 1);
            due.same("a ring of twos", Desks.ring(9, 9, 2).gain(v), 0);
            due.same("nobody else asks", Desks.ring(9, 14, 0).gain(v), 0);
        }
        due.same("one more, not two, where both neighbours ask", Desks.desk(3, new int[] {0, 1, 0, 2}, 0, 1, 1).gain(0), 1);
    }

    /** The demand would be 15, which ask refuses; the words of gain have no such limit. */
    private void gainOfOneWhoAsksFor14() {
        due.same("13 + 1 of 14", Desks.bundle(14, 13, 14).gain(0), 1);
        due.same("14 + 1 of 14", Desks.bundle(14, 14, 14).gain(0), 0);
        due.same("14 + 1 of none", Desks.desk(1, new int[0], 14).gain(0), 0);
        for (int v = 0; v < 9; v++) {
            FactorDesk x = Desks.ring(9, 14, 14);
            due.same("14 + 1 of vertex " + v, x.gain(v), 0);
            due.same("the demand stays", x.demand(v), 14);
            due.same("all edges stay", x.most(), 14);
        }
    }

    private void gainIsThatOfOneVertexAlone() {
        FactorDesk x = Desks.bundle(14, 5, 5);
        due.same("0 alone", x.gain(0), 0);
        due.same("1 alone", x.gain(1), 0);
        due.same("neither was raised", x.most(), 5);
        x.ask(0, 6);
        due.same("1, once 0 asks for more", x.gain(1), 1);
        due.same("0 not", x.gain(0), 0);
        due.same("the demands stay", x.demand(0) * 10 + x.demand(1), 65);
    }

    // Promise 16, "NONE when there is none such."
    private void gainKnowsNoOtherVertices() {
        for (int n = 1; n <= 9; n++) {
            FactorDesk x = Desks.ring(9, 14, 14);
            x.begin(n);
            due.same("the last of " + n, x.gain(n - 1), 0);
            for (int v : Desks.outside(n)) {
                due.same("gain(" + v + ") of " + n, x.gain(v), NONE);
            }
        }
    }

    // Promise 17, "The bound of two sets of vertices": up to all of them
    private void boundTakesAnyTwoSetsApart() {
        for (int n = 1; n <= 9; n++) {
            int all = (1 << n) - 1;
            FactorDesk x = Desks.ring(n, 0, 3);
            due.same("both empty", x.bound(0, 0), n);
            due.same("all in U", x.bound(all, 0), 3 * n);
            due.same("all in W", x.bound(0, all), 0);
            for (int v = 0; v < n; v++) {
                due.same(v + " in U, the rest in W", x.bound(1 << v, all ^ 1 << v), 3);
                due.same(v + " in W, the rest in U", x.bound(all ^ 1 << v, 1 << v), 3 * (n - 1));
                due.same(v + " in no set, the rest in W", x.bound(0, all ^ 1 << v), 1);
            }
        }
        FactorDesk full = Desks.ring(9, 14, 14);
        due.same("full, both empty", full.bound(0, 0), 63);
        due.same("full, all in U", full.bound(ALL_VERTICES, 0), 126);
        due.same("full, all in W", full.bound(0, ALL_VERTICES), 14);
    }

    // Promise 17, "NONE when they have some together"
    private void boundRefusesSetsWithSomeTogether() {
        for (int n = 1; n <= 9; n++) {
            int all = (1 << n) - 1;
            FactorDesk x = Desks.ring(n, 0, 3);
            due.same("all in both", x.bound(all, all), NONE);
            for (int v = 0; v < n; v++) {
                due.same(v + " in both", x.bound(1 << v, 1 << v), NONE);
                due.same(v + " in both, all in U", x.bound(all, 1 << v), NONE);
                due.same(v + " in both, all in W", x.bound(1 << v, all), NONE);
                due.same(v + " not in U", x.bound(all ^ 1 << v, 1 << v), 3 * (n - 1));
            }
        }
    }

    // Promise 17, "or others"
    private void boundRefusesOthersThanVertices() {
        for (int n = 1; n <= 9; n++) {
            int all = (1 << n) - 1;
            FactorDesk x = Desks.ring(9, 14, 3);
            x.begin(n);
            for (int set : Desks.strangeSets(n)) {
                due.same("bound(" + set + ", 0) of " + n, x.bound(set, 0), NONE);
                due.same("bound(0, " + set + ") of " + n, x.bound(0, set), NONE);
                due.same("bound(" + set + ", " + set + ") of " + n, x.bound(set, set), NONE);
                due.same("bound(" + set + ", rest) of " + n, x.bound(set, all & ~set), NONE);
                due.same("bound(rest, " + set + ") of " + n, x.bound(all & ~set, set), NONE);
            }
        }
    }

    // Promise 17, "or one is below 0"
    private void boundRefusesWhatIsBelow0() {
        for (int n : new int[] {1, 2, 8, 9}) {
            FactorDesk x = Desks.ring(n, 0, 3);
            for (int k = 0; k < 32; k++) {
                due.same("bound(" + (-1 << k) + ", 0)", x.bound(-1 << k, 0), NONE);
                due.same("bound(0, " + (-1 << k) + ")", x.bound(0, -1 << k), NONE);
                due.same("bound(" + (-1 << k) + ", 1)", x.bound(-1 << k, 1), NONE);
                due.same("both below 0", x.bound(-1 << k, Desks.LOWEST), NONE);
            }
            due.same("not below", x.bound(0, 0), n);
        }
    }

    // Promise 18, "which = 0 U, 1 W"
    private void witnessOfTheEmptyGraph() {
        for (int n = 1; n <= 9; n++) {
            for (int d = 0; d <= 14; d++) {
                FactorDesk x = Desks.ring(n, 0, d);
                due.same("U where " + n + " ask for " + d, x.witness(0), 0);
                // Half of 0 or 1 is 0; of more it is not, so that all must be in W.
                due.same("W where " + n + " ask for " + d, x.witness(1), d < 2 ? 0 : (1 << n) - 1);
            }
        }
    }

    private void witnessOfTheFullGraph() {
        for (int n = 2; n <= 9; n++) {
            FactorDesk nobody = Desks.ring(n, 14, 0);
            due.same("nobody asks, U", nobody.witness(0), 0);
            due.same("nobody asks, W", nobody.witness(1), 0);
            FactorDesk all = Desks.ring(n, 14, 14);
            due.same("all ask for 14, U", all.witness(0), 0);
            due.same("all ask for 14, W", all.witness(1), n == 2 ? 0 : (1 << n) - 1);
        }
        // What the first asks is met in full, and the second asks for more.
        due.same("U of a bundle", Desks.bundle(14, 13, 14).witness(0), 0);
        due.same("W of a bundle", Desks.bundle(14, 13, 14).witness(1), 0);
        due.same("U of a bundle, 12 and 14", Desks.bundle(14, 12, 14).witness(0), 1);
        due.same("W of a bundle, 12 and 14", Desks.bundle(14, 12, 14).witness(1), 2);
        due.same("U of a bundle, 14 and 12", Desks.bundle(14, 14, 12).witness(0), 2);
        due.same("W of a bundle, 14 and 12", Desks.bundle(14, 14, 12).witness(1), 1);
    }

    // "the first U in ORDER for which there is such a W, for it the first such W in ORDER"
    private void witnessTakesTheFirstUBeforeTheFirstW() {
        FactorDesk x = Desks.desk(4, new int[] {1, 2, 3, 0, 0, 1}, 0, 1, 2, 1);
        due.same("U = {0} and no W would do", x.bound(1, 0), x.most());
        due.same("so would no U and W = {2}", x.bound(0, 4), x.most());
        due.same("no U comes before", x.witness(0), 0);
        due.same("and for it W = {2}", x.witness(1), 4);
        FactorDesk star = Desks.star(1, 1);
        due.same("W asked before U", star.witness(1), 0);
        due.same("U asked after W", star.witness(0), 1);
    }

    // Promise 18, "NONE for another which."
    private void witnessKnowsNoOtherWhich() {
        for (int n = 1; n <= 9; n++) {
            FactorDesk x = Desks.ring(n, 14, 1);
            for (int which : Desks.outside(2)) {
                due.same("witness(" + which + ") of " + n, x.witness(which), NONE);
            }
            due.same("witness(0) of " + n, x.bound(x.witness(0), x.witness(1)), x.most());
        }
    }
}
