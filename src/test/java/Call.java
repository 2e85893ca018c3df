/** One call of the face, to be made on FactorDesk and on PlainDesk alike; a boolean counts 1 or 0. */
record Call(String name, int a, int b) {
    static Call of(String name) {
        return new Call(name, 0, 0);
    }

    static Call of(String name, int a) {
        return new Call(name, a, 0);
    }

    static Call of(String name, int a, int b) {
        return new Call(name, a, b);
    }

    int on(FactorDesk x) {
        return switch (name) {
            case "begin" -> x.begin(a) ? 1 : 0;
            case "edge" -> x.edge(a, b);
            case "drop" -> x.drop(a) ? 1 : 0;
            case "ask" -> x.ask(a, b) ? 1 : 0;
            case "vertices" -> x.vertices();
            case "edges" -> x.edges();
            case "end" -> x.end(a, b);
            case "demand" -> x.demand(a);
            case "judge" -> x.judge(a);
            case "most" -> x.most();
            case "best" -> x.best();
            case "factor" -> x.factor();
            case "role" -> x.role(a);
            case "slack" -> x.slack(a);
            case "gain" -> x.gain(a);
            case "bound" -> x.bound(a, b);
            case "witness" -> x.witness(a);
            default -> throw new IllegalArgumentException(name);
        };
    }

    int on(PlainDesk x) {
        return switch (name) {
            case "begin" -> x.begin(a) ? 1 : 0;
            case "edge" -> x.edge(a, b);
            case "drop" -> x.drop(a) ? 1 : 0;
            case "ask" -> x.ask(a, b) ? 1 : 0;
            case "vertices" -> x.vertices();
            case "edges" -> x.edges();
            case "end" -> x.end(a, b);
            case "demand" -> x.demand(a);
            case "judge" -> x.judge(a);
            case "most" -> x.most();
            case "best" -> x.best();
            case "factor" -> x.factor();
            case "role" -> x.role(a);
            case "slack" -> x.slack(a);
            case "gain" -> x.gain(a);
            case "bound" -> x.bound(a, b);
            case "witness" -> x.witness(a);
            default -> throw new IllegalArgumentException(name);
        };
    }

    /** What the call answers when it is refused. */
    int refusal() {
        return switch (name) {
            case "begin", "drop", "ask" -> 0;
            default -> FactorDesk.NONE;
        };
    }

    @Override
    public String toString() {
        return name + "(" + a + ", " + b + ")";
    }
}
