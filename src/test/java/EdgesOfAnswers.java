/** Boundary cases of 'Terms', ANSWERS below 0: they change nothing, and the first that fits is answered. */
final class EdgesOfAnswers {
    private static final String PART = "Terms ANSWERS";

    private final Edges edges;
    private CodedDeltas x;

    EdgesOfAnswers(Edges edges) {
        this.edges = edges;
    }

    /** A call that is to be refused. */
    private interface Call {
        int answer();
    }

    void run() {
        edges.test(PART, "refusals .. change nothing: calls that set rows", this::rows);
        edges.test(PART, "refusals .. change nothing: calls that set OWN TABLE", this::tables);
        edges.test(PART, "refusals .. change nothing: write()", this::writes);
        edges.test(PART, "refusals .. change nothing: calls that ask", this::questions);
        edges.test(PART, "-10 less a FAULT: rows and tables stay, what is told does not", this::faults);
        edges.test(PART, "the first that fits", this::first);
    }

    /** All rows have octets, OWN TABLE is another one, a reading has a FAULT, instructions are told. */
    private static CodedDeltas object() {
        CodedDeltas x = new CodedDeltas();
        x.fill(Rows.SOURCE, 0, 3999, 1);
        x.fill(Rows.SECOND, 0, 7999, 2);
        x.copy(Rows.SOURCE, 100, 300, Rows.TARGET);
        Tables.plain(x, 7, 2);
        x.write(1, 1, 90, true);
        x.feed(Rows.DELTA, 9, 1);
        x.read();
        return x;
    }

    private void refused(String what, int due, Call call) {
        State before = new State(x);
        edges.is(what, call.answer(), due);
        edges.isTrue(what + " changes nothing", before.isThatOf(x));
    }

    private void rows() {
        x = object();
        refused("feed to no row", -2, () -> x.feed(4, 1, 1));
        refused("feed 9", -2, () -> x.feed(1, 1, 9));
        refused("feed -1", -2, () -> x.feed(1, 1, -1));
        refused("feed without room", -4, () -> x.feed(0, 1, 2));
        refused("fill of no row", -2, () -> x.fill(-1, 0, 1, 1));
        refused("fill of no kind", -2, () -> x.fill(1, 4, 1, 1));
        refused("fill with -1", -2, () -> x.fill(1, 0, -1, 1));
        refused("fill without room", -4, () -> x.fill(3, 0, 2, 1));
        refused("copy of no row", -2, () -> x.copy(4, 0, 1, 1));
        refused("copy to no row", -2, () -> x.copy(0, 0, 1, 4));
        refused("copy of too many", -2, () -> x.copy(1, 0, 301, 2));
        refused("copy without room", -4, () -> x.copy(1, 0, 2, 0));
        refused("alter no octet", -1, () -> x.alter(1, 300, 1));
        refused("alter to 256", -2, () -> x.alter(1, 0, 256));
        refused("cut to too many", -2, () -> x.cut(1, 301));
        refused("cut to -1", -2, () -> x.cut(1, -1));
        refused("cut of no row", -2, () -> x.cut(4, 0));
    }

    private void tables() {
        x = object();
        refused("tableOctet 1536", -1, () -> x.tableOctet(1536, 1));
        refused("tableOctet to 256", -2, () -> x.tableOctet(0, 256));
        refused("caches 9", -2, () -> x.caches(9, 0));
        refused("caches 0, 5", -2, () -> x.caches(0, 5));
        x.feed(Rows.TARGET, 0, 0);
        x.write(0, 0, 50, true);
        edges.is("NEAR", x.octet(Rows.DELTA, 6), 7);
        edges.is("SAME", x.octet(Rows.DELTA, 7), 2);
    }

    private void writes() {
        x = object();
        refused("no such way", -2, () -> x.write(3, 0, 50, false));
        refused("no such segment", -2, () -> x.write(0, 3, 50, false));
        refused("no such window", -2, () -> x.write(0, 0, 49, false));
        x.tableOctet(1, 0);
        refused("no code for an ADD", -5, () -> x.write(0, 0, 50, true));
        x.tableOctet(1, 4);
        refused("not RIGHT", -2, () -> x.write(1, 1, 50, true));
    }

    private void questions() {
        x = object();
        refused("length of no row", -1, () -> x.length(4));
        refused("octet behind the last", -1, () -> x.octet(1, 300));
        refused("code of no table", -1, () -> x.code(2, 0));
        refused("told(4)", -2, () -> x.told(4));
        refused("instruction behind the last", -1, () -> x.instruction(State.count(x), 0));
        refused("instruction 0, no such what", -2, () -> x.instruction(0, 6));
    }

    private void faults() {
        x = new CodedDeltas();
        x.feed(Rows.TARGET, 0x070809, 3);
        x.tableOctet(5, 3);
        int before = x.code(1, 5);
        Rows.set(x, Rows.DELTA, Rows.plain(Rows.window(1, Rows.of(8), Rows.of(2), Rows.of()), Rows.of(9)));
        Rows.set(x, Rows.SECOND, 1, 2);
        for (int i = 0; i < 2; i++) {
            edges.is("answer", i == 0 ? x.read() : x.join(), -15);
            edges.is("TARGET", x.length(Rows.TARGET), 3);
            edges.is("TARGET's last", x.octet(Rows.TARGET, 2), 9);
            edges.is("DELTA", x.length(Rows.DELTA), 15);
            edges.is("SECOND", x.length(Rows.SECOND), 2);
            edges.is("OWN TABLE", x.code(1, 5), before);
            edges.is("FAULT", x.told(0), 5);
            edges.is("PLACE", x.told(1), 14);
            edges.is("windows", x.told(2), 1);
            edges.is("instructions", x.told(3), 1);
            edges.is("the instruction", x.instruction(0, 0), 1);
        }
    }

    private void first() {
        x = object();
        edges.is("feed: -2, -4", x.feed(0, 1, 9), -2);
        edges.is("fill: -2, -4", x.fill(0, 4, 9999, 1), -2);
        edges.is("copy: -2, -4", x.copy(0, 3999, 4001, 0), -2);
        edges.is("alter: -1, -2", x.alter(0, 3999, 256), -1);
        edges.is("tableOctet: -1, -2", x.tableOctet(1536, 256), -1);
        edges.is("instruction: -1, -2", x.instruction(4000, 6), -1);
        x.tableOctet(1, 0);
        edges.is("write: -2, -5", x.write(3, 0, 50, true), -2);
    }
}
