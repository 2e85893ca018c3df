import java.util.Random;

/** Runs of calls, drawn from fixed seeds, on FactorDesk and on PlainDesk: all answers must agree. */
public final class ReferenceTest {
    private static final int[] ODD = {Integer.MIN_VALUE, -2, -1, 15, 16, 31, 32, 33, 64, Integer.MAX_VALUE};

    private final Due due = new Due("ReferenceTest");
    private FactorDesk desk;
    private PlainDesk plain;
    private String story = "";

    public static void main(String[] args) {
        ReferenceTest test = new ReferenceTest();
        for (int seed = 0; seed < 700; seed++) {
            test.smallRun(new Random(seed), seed);
        }
        for (int seed = 0; seed < 90; seed++) {
            test.largeGraph(new Random(10_000 + seed), seed);
        }
        test.due.close();
    }

    private void fresh(String name) {
        desk = new FactorDesk();
        plain = new PlainDesk();
        story = name;
    }

    /** Changes, refused ones among them, and a look at everything after each few. */
    private void smallRun(Random random, int seed) {
        fresh("small run " + seed);
        begin(1 + random.nextInt(5));
        for (int step = 0; step < 24; step++) {
            change(random);
            if (random.nextInt(3) == 0) {
                compareOne(random);
            }
            if (step % 4 == 3) {
                compareAll();
            }
        }
    }

    private void change(Random random) {
        int n = plain.vertices();
        switch (random.nextInt(12)) {
            case 0 -> drop(random.nextInt(plain.edges() + 1));
            case 1 -> drop(plain.edges() > 7 ? 0 : odd(random));
            case 2 -> ask(odd(random), 1);
            case 3 -> ask(random.nextInt(n), odd(random));
            case 4 -> edge(odd(random), random.nextInt(n));
            case 5 -> begin(random.nextInt(8) == 0 ? 1 + random.nextInt(6) : odd(random));
            case 6, 7, 8 -> ask(random.nextInt(n + 1), random.nextInt(4));
            default -> edge(random.nextInt(n), random.nextInt(n));
        }
    }

    private static int odd(Random random) {
        return ODD[random.nextInt(ODD.length)];
    }

    /** Graphs near the limits: many vertices, many edges, some of them many times between two. */
    private void largeGraph(Random random, int seed) {
        fresh("large graph " + seed);
        int n = 2 + random.nextInt(8);
        begin(n);
        int sideA = 1 + random.nextInt(n - 1);
        boolean twoSided = random.nextBoolean();
        int wanted = 10 + random.nextInt(5);
        for (int tries = 0; tries < 200 && plain.edges() < wanted; tries++) {
            int a = random.nextInt(twoSided ? sideA : n);
            int b = twoSided ? sideA + random.nextInt(n - sideA) : random.nextInt(n);
            edge(a, b);
        }
        int highest = random.nextInt(6) == 0 ? 14 : 1 + random.nextInt(4);
        for (int v = 0; v < n; v++) {
            ask(v, random.nextInt(highest + 1));
        }
        compareAll();
    }

    private void begin(int n) {
        told("begin(" + n + ")", desk.begin(n) ? 1 : 0, plain.begin(n) ? 1 : 0);
    }

    private void edge(int a, int b) {
        told("edge(" + a + ", " + b + ")", desk.edge(a, b), plain.edge(a, b));
    }

    private void drop(int e) {
        told("drop(" + e + ")", desk.drop(e) ? 1 : 0, plain.drop(e) ? 1 : 0);
    }

    private void ask(int v, int d) {
        told("ask(" + v + ", " + d + ")", desk.ask(v, d) ? 1 : 0, plain.ask(v, d) ? 1 : 0);
    }

    private void told(String call, int got, int want) {
        story += "; " + call;
        due.same(story, got, want);
    }

    private void same(String call, int got, int want) {
        due.same(story + " .. " + call, got, want);
    }

    /** One question alone, so that no answer leans on another question asked before it. */
    private void compareOne(Random random) {
        int v = random.nextInt(plain.vertices());
        int e = random.nextInt(plain.edges() + 1);
        switch (random.nextInt(9)) {
            case 0 -> same("best", desk.best(), plain.best());
            case 1 -> same("factor", desk.factor(), plain.factor());
            case 2 -> same("role " + e, desk.role(e), plain.role(e));
            case 3 -> same("slack " + v, desk.slack(v), plain.slack(v));
            case 4 -> same("gain " + v, desk.gain(v), plain.gain(v));
            case 5 -> same("witness(1)", desk.witness(1), plain.witness(1));
            case 6 -> same("witness(0)", desk.witness(0), plain.witness(0));
            case 7 -> same("bound", desk.bound(1 << v, 0), plain.bound(1 << v, 0));
            default -> same("most", desk.most(), plain.most());
        }
    }

    private void compareAll() {
        same("vertices", desk.vertices(), plain.vertices());
        same("edges", desk.edges(), plain.edges());
        same("most", desk.most(), plain.most());
        same("best", desk.best(), plain.best());
        same("factor", desk.factor(), plain.factor());
        for (int which = -1; which <= 2; which++) {
            same("witness " + which, desk.witness(which), plain.witness(which));
        }
        for (int v = -1; v <= plain.vertices(); v++) {
            compareVertex(v);
        }
        for (int e = -1; e <= plain.edges(); e++) {
            compareEdge(e);
        }
        for (int k : ODD) {
            compareVertex(k);
            compareEdge(k);
            same("witness " + k, desk.witness(k), plain.witness(k));
            same("bound " + k + " 0", desk.bound(k, 0), plain.bound(k, 0));
            same("bound 0 " + k, desk.bound(0, k), plain.bound(0, k));
        }
        compareSets();
    }

    private void compareVertex(int v) {
        same("demand " + v, desk.demand(v), plain.demand(v));
        same("slack " + v, desk.slack(v), plain.slack(v));
        same("gain " + v, desk.gain(v), plain.gain(v));
    }

    private void compareEdge(int e) {
        same("role " + e, desk.role(e), plain.role(e));
        for (int which = -1; which <= 2; which++) {
            same("end " + e + " " + which, desk.end(e, which), plain.end(e, which));
        }
    }

    private void compareSets() {
        for (int set = -1; set <= 1 << plain.edges(); set++) {
            same("judge " + set, desk.judge(set), plain.judge(set));
        }
        for (int k : ODD) {
            same("judge " + k, desk.judge(k), plain.judge(k));
        }
        int step = plain.vertices() > 6 ? 5 : 1;
        for (int u = -1; u <= 1 << plain.vertices(); u += step) {
            for (int w = -1; w <= 1 << plain.vertices(); w++) {
                same("bound " + u + " " + w, desk.bound(u, w), plain.bound(u, w));
            }
        }
    }
}
