import java.util.ArrayList;
import java.util.HashMap;
import java.util.LinkedHashMap;
import java.util.List;
import java.util.Map;

/** "A call that is refused changes nothing.": all that can be asked answers as before it. */
public final class RefusalTest {
    private static final int CALLS = 512;
    private static final int LOWEST = Desks.LOWEST;
    private static final int HIGHEST = Desks.HIGHEST;

    private final Due due;
    private final String name;
    private final List<Call> changes;
    private final PlainDesk plain = new PlainDesk();
    private final Map<Call, Integer> dueAnswers = new HashMap<>();
    private final int n;
    private final int m;

    private RefusalTest(Due due, String name, List<Call> changes) {
        this.due = due;
        this.name = name;
        this.changes = changes;
        for (Call change : changes) {
            change.on(plain);
        }
        n = plain.vertices();
        m = plain.edges();
    }

    public static void main(String[] args) {
        Due due = new Due("RefusalTest");
        for (Map.Entry<String, List<Call>> state : states().entrySet()) {
            RefusalTest test = new RefusalTest(due, state.getKey(), state.getValue());
            test.eachRefusalByItself();
            test.allRefusalsThenEveryQuestion();
        }
        due.close();
    }

    private static Map<String, List<Call>> states() {
        Map<String, List<Call>> states = new LinkedHashMap<>();
        states.put("a new object", List.of());
        states.put("one vertex that asks for 14", List.of(Call.of("ask", 0, 14)));
        states.put("nine vertices, no edges", graph(9, 0, 0));
        states.put("nine vertices, no edges, all ask for 14", graph(9, 0, 14));
        states.put("two vertices, full", graph(2, 14, 14));
        states.put("nine vertices, full, nobody asks", graph(9, 14, 0));
        states.put("nine vertices, full, all ask for 14", graph(9, 14, 14));
        states.put("nine vertices, full, a witness that is hard to find", twoHubs());
        states.put("five vertices, thirteen edges", graph(5, 13, 3));
        states.put("three vertices, one edge", graph(3, 1, 1));
        states.put("begun with nine, then with three", smallerThanBefore());
        states.put("full once, some dropped", someDropped());
        return states;
    }

    private static List<Call> graph(int n, int m, int d) {
        List<Call> calls = new ArrayList<>();
        calls.add(Call.of("begin", n));
        for (int e = 0; e < m; e++) {
            calls.add(Call.of("edge", e % n, (e + 1 + e / n % 2 * (n - 2)) % n));
        }
        for (int v = 0; v < n; v++) {
            calls.add(Call.of("ask", v, d));
        }
        return calls;
    }

    private static List<Call> twoHubs() {
        List<Call> calls = new ArrayList<>();
        calls.add(Call.of("begin", 9));
        for (int e = 0; e < 14; e++) {
            calls.add(Call.of("edge", e % 2, 2 + e / 2));
        }
        for (int v = 0; v < 9; v++) {
            calls.add(Call.of("ask", v, 3 + v % 4));
        }
        return calls;
    }

    private static List<Call> smallerThanBefore() {
        List<Call> calls = new ArrayList<>(graph(9, 14, 14));
        calls.add(Call.of("begin", 3));
        calls.add(Call.of("edge", 2, 0));
        calls.add(Call.of("edge", 1, 2));
        calls.add(Call.of("ask", 2, 1));
        calls.add(Call.of("ask", 0, 2));
        return calls;
    }

    private static List<Call> someDropped() {
        List<Call> calls = new ArrayList<>(graph(6, 14, 2));
        for (int e : new int[] {13, 0, 5, 5}) {
            calls.add(Call.of("drop", e));
        }
        return calls;
    }

    /** Before any question, and after all have been asked: what is kept must not be spoilt either. */
    private void eachRefusalByItself() {
        List<Call> questions = questions();
        for (Call refused : refusals()) {
            FactorDesk cold = built();
            refuse(cold, refused);
            compare(cold, questions, "after " + refused);
            FactorDesk warm = built();
            compare(warm, questions, "before " + refused);
            refuse(warm, refused);
            compare(warm, questions, "after the questions and " + refused);
        }
        due.holds(name + ": within 512 calls", changes.size() + 2 * questions.size() + 1 <= CALLS);
    }

    private void allRefusalsThenEveryQuestion() {
        List<Call> refusals = refusals();
        List<Call> questions = everyQuestion();
        int room = CALLS - changes.size() - refusals.size();
        due.holds(name + ": room for questions", room > 0);
        for (int from = 0; from < questions.size(); from += room) {
            FactorDesk x = built();
            for (Call refused : refusals) {
                refuse(x, refused);
            }
            compare(x, questions.subList(from, Math.min(from + room, questions.size())), "after all refusals");
        }
    }

    private FactorDesk built() {
        FactorDesk x = new FactorDesk();
        for (Call change : changes) {
            change.on(x);
        }
        return x;
    }

    private void refuse(FactorDesk x, Call call) {
        due.same(name + ": " + call, call.on(x), call.refusal());
    }

    private void compare(FactorDesk x, List<Call> questions, String when) {
        for (Call question : questions) {
            int want = dueAnswers.computeIfAbsent(question, q -> q.on(plain));
            due.same(name + " " + when + ": " + question, question.on(x), want);
        }
    }

    /** Every call that the document refuses in this state, by the kinds of wrong arguments. */
    private List<Call> refusals() {
        List<Call> calls = new ArrayList<>();
        for (int k : new int[] {0, -1, 10, 11, 16, 256, LOWEST, LOWEST + 1, HIGHEST}) {
            calls.add(Call.of("begin", k));
        }
        refusedEdges(calls);
        refusedOfVertices(calls);
        refusedOfEdges(calls);
        refusedSets(calls);
        for (int which : new int[] {-1, 2, 3, LOWEST, HIGHEST}) {
            calls.add(Call.of("witness", which));
        }
        return calls;
    }

    private void refusedEdges(List<Call> calls) {
        for (int v = 0; v < n; v++) {
            calls.add(Call.of("edge", v, v));
        }
        for (int k : strange(n)) {
            calls.add(Call.of("edge", k, 0));
            calls.add(Call.of("edge", n - 1, k));
            calls.add(Call.of("edge", k, k));
        }
        calls.add(Call.of("edge", -1, n));
        if (m == 14) {
            calls.add(Call.of("edge", 0, n - 1));
            calls.add(Call.of("edge", n - 1, 0));
        }
    }

    private void refusedOfVertices(List<Call> calls) {
        for (int k : strange(n)) {
            calls.add(Call.of("ask", k, 0));
            calls.add(Call.of("ask", k, 14));
            calls.add(Call.of("ask", k, 15));
            calls.add(Call.of("demand", k));
            calls.add(Call.of("slack", k));
            calls.add(Call.of("gain", k));
        }
        for (int d : strange(15)) {
            calls.add(Call.of("ask", 0, d));
            calls.add(Call.of("ask", n - 1, d));
        }
    }

    private void refusedOfEdges(List<Call> calls) {
        for (int k : strange(m)) {
            calls.add(Call.of("drop", k));
            calls.add(Call.of("end", k, 0));
            calls.add(Call.of("end", k, 1));
            calls.add(Call.of("role", k));
        }
        for (int which : strange(2)) {
            calls.add(Call.of("end", 0, which));
            calls.add(Call.of("end", m - 1, which));
        }
    }

    private void refusedSets(List<Call> calls) {
        for (int set : new int[] {-1, 1 << m, 1 << m | 1, 1 << 14, 1 << 30, LOWEST, HIGHEST}) {
            calls.add(Call.of("judge", set));
        }
        for (int set : new int[] {-1, 1 << n, 1 << n | 1, 1 << 9, 1 << 30, LOWEST, HIGHEST}) {
            calls.add(Call.of("bound", set, 0));
            calls.add(Call.of("bound", 0, set));
        }
        for (int v = 0; v < n; v++) {
            calls.add(Call.of("bound", 1 << v, 1 << v));
        }
        calls.add(Call.of("bound", (1 << n) - 1, (1 << n) - 1));
    }

    private static int[] strange(int count) {
        return new int[] {-1, count, count + 1, 32, LOWEST, HIGHEST};
    }

    /** What can be asked, with some of the sets alone, so that it can be asked twice. */
    private List<Call> questions() {
        List<Call> calls = singleQuestions();
        for (int e = 0; e <= m; e++) {
            calls.add(Call.of("judge", (1 << e) - 1));
            calls.add(Call.of("judge", 1 << e));
        }
        int all = (1 << n) - 1;
        for (int v = 0; v < n; v++) {
            calls.add(Call.of("bound", 1 << v, 0));
            calls.add(Call.of("bound", 0, 1 << v));
            calls.add(Call.of("bound", 1 << v, all ^ 1 << v));
            calls.add(Call.of("bound", all & -1 << v, 0));
            calls.add(Call.of("bound", 0, all & -1 << v));
        }
        return calls;
    }

    private List<Call> everyQuestion() {
        List<Call> calls = singleQuestions();
        for (int set = 0; set < 1 << m; set++) {
            calls.add(Call.of("judge", set));
        }
        for (int u = 0; u < 1 << n; u++) {
            for (int w = 0; w < 1 << n; w++) {
                if ((u & w) == 0) {
                    calls.add(Call.of("bound", u, w));
                }
            }
        }
        return calls;
    }

    /** All but the sets; the first numbers that are free are among them. */
    private List<Call> singleQuestions() {
        List<Call> calls = new ArrayList<>();
        for (String question : new String[] {"vertices", "edges", "most", "best", "factor"}) {
            calls.add(Call.of(question));
        }
        calls.add(Call.of("witness", 0));
        calls.add(Call.of("witness", 1));
        for (int e = 0; e <= m; e++) {
            calls.add(Call.of("end", e, 0));
            calls.add(Call.of("end", e, 1));
            calls.add(Call.of("role", e));
        }
        for (int v = 0; v <= n; v++) {
            calls.add(Call.of("demand", v));
            calls.add(Call.of("slack", v));
            calls.add(Call.of("gain", v));
        }
        return calls;
    }
}
