import java.util.ArrayList;
import java.util.List;
import java.util.Random;

/** Runs of calls, drawn from fixed seeds, on FactorDesk and on PlainDesk: all answers must agree. */
public final class ReferenceTest {
    private static final int CALLS = 512;
    private static final int[] ODD = {Integer.MIN_VALUE, -2, -1, 15, 16, 31, 32, 33, 64, Integer.MAX_VALUE};

    private final Due due = new Due("ReferenceTest");
    private FactorDesk desk;
    private PlainDesk plain;
    private int calls;
    private String name = "";
    private final List<Call> changes = new ArrayList<>();

    public static void main(String[] args) {
        ReferenceTest test = new ReferenceTest();
        for (int seed = 0; seed < 700; seed++) {
            test.smallRun(new Random(seed), seed);
        }
        for (int seed = 0; seed < 90; seed++) {
            test.largeGraph(new Random(10_000 + seed), seed);
        }
        test.due.close();
    }

    private void fresh(String run) {
        name = run;
        changes.clear();
        plain = new PlainDesk();
        desk = new FactorDesk();
        calls = 0;
    }

    /** Changes, refused ones among them, and a look at everything after each few. */
    private void smallRun(Random random, int seed) {
        fresh("small run " + seed);
        change("begin", 1 + random.nextInt(5), 0);
        for (int step = 0; step < 24; step++) {
            anyChange(random);
            if (random.nextInt(3) == 0) {
                compareOne(random);
            }
            if (step % 4 == 3) {
                compareAll();
            }
        }
    }

    private void anyChange(Random random) {
        int n = plain.vertices();
        switch (random.nextInt(12)) {
            case 0 -> change("drop", random.nextInt(plain.edges() + 1), 0);
            case 1 -> change("drop", plain.edges() > 7 ? 0 : odd(random), 0);
            case 2 -> change("ask", odd(random), 1);
            case 3 -> change("ask", random.nextInt(n), odd(random));
            case 4 -> change("edge", odd(random), random.nextInt(n));
            case 5 -> change("begin", random.nextInt(8) == 0 ? 1 + random.nextInt(6) : odd(random), 0);
            case 6, 7, 8 -> change("ask", random.nextInt(n + 1), random.nextInt(4));
            default -> change("edge", random.nextInt(n), random.nextInt(n));
        }
    }

    private static int odd(Random random) {
        return ODD[random.nextInt(ODD.length)];
    }

    /** Graphs near the limits: many vertices, many edges, some of them many times between two. */
    private void largeGraph(Random random, int seed) {
        fresh("large graph " + seed);
        int n = 2 + random.nextInt(8);
        change("begin", n, 0);
        int sideA = 1 + random.nextInt(n - 1);
        boolean twoSided = random.nextBoolean();
        int wanted = 10 + random.nextInt(5);
        for (int tries = 0; tries < 200 && plain.edges() < wanted; tries++) {
            int a = random.nextInt(twoSided ? sideA : n);
            int b = twoSided ? sideA + random.nextInt(n - sideA) : random.nextInt(n);
            change("edge", a, b);
        }
        int highest = random.nextInt(6) == 0 ? 14 : 1 + random.nextInt(4);
        for (int v = 0; v < n; v++) {
            change("ask", v, random.nextInt(highest + 1));
        }
        compareAll();
    }

    private void change(String method, int a, int b) {
        Call call = Call.of(method, a, b);
        same(call);
        changes.add(call);
    }

    private void same(String method, int a, int b) {
        same(Call.of(method, a, b));
    }

    private void same(Call call) {
        if (calls == CALLS) {
            renew();
        }
        calls++;
        int got = call.on(desk);
        int want = call.on(plain);
        due.same(got == want ? name : name + ": " + changes + " .. " + call, got, want);
    }

    /** Nothing is promised after 512 calls: so another object, brought to the same graph. */
    private void renew() {
        desk = new FactorDesk();
        for (Call change : changes) {
            change.on(desk);
        }
        calls = changes.size();
    }

    /** One question alone, so that no answer leans on another question asked before it. */
    private void compareOne(Random random) {
        int v = random.nextInt(plain.vertices());
        int e = random.nextInt(plain.edges() + 1);
        switch (random.nextInt(9)) {
            case 0 -> same("best", 0, 0);
            case 1 -> same("factor", 0, 0);
            case 2 -> same("role", e, 0);
            case 3 -> same("slack", v, 0);
            case 4 -> same("gain", v, 0);
            case 5 -> same("witness", 1, 0);
            case 6 -> same("witness", 0, 0);
            case 7 -> same("bound", 1 << v, 0);
            default -> same("most", 0, 0);
        }
    }

    private void compareAll() {
        for (String question : new String[] {"vertices", "edges", "most", "best", "factor"}) {
            same(question, 0, 0);
        }
        for (int which = -1; which <= 2; which++) {
            same("witness", which, 0);
        }
        for (int v = -1; v <= plain.vertices(); v++) {
            compareVertex(v);
        }
        for (int e = -1; e <= plain.edges(); e++) {
            compareEdge(e);
        }
        for (int k : ODD) {
            compareVertex(k);
            compareEdge(k);
            same("witness", k, 0);
            same("bound", k, 0);
            same("bound", 0, k);
        }
        compareSets();
    }

    private void compareVertex(int v) {
        same("demand", v, 0);
        same("slack", v, 0);
        same("gain", v, 0);
    }

    private void compareEdge(int e) {
        same("role", e, 0);
        for (int which = -1; which <= 2; which++) {
            same("end", e, which);
        }
    }

    private void compareSets() {
        for (int set = -1; set <= 1 << plain.edges(); set++) {
            same("judge", set, 0);
        }
        for (int k : ODD) {
            same("judge", k, 0);
        }
        int step = plain.vertices() > 6 ? 5 : 1;
        for (int u = -1; u <= 1 << plain.vertices(); u += step) {
            for (int w = -1; w <= 1 << plain.vertices(); w++) {
                same("bound", u, w);
            }
        }
    }
}
