/** Boundary cases of 'Terms', 1 CODES, ADDRESSES, as they are read. */
final class EdgesOfAddresses {
    private static final String PART = "Terms 1 ADDRESSES";
    private static final int HERE = 2000;
    private static final int[] NO = {};

    private final Edges edges;

    EdgesOfAddresses(Edges edges) {
        this.edges = edges;
    }

    void run() {
        modes();
        rings();
        sameOnes();
        beginnings();
        here();
    }

    /** A COPY of so many octets by a MODE of the plain table: its code, its size, its address. */
    private static int[][] sized(int size, int mode, int... address) {
        return new int[][] {{10 + mode, size}, address};
    }

    private static int[][] copy(int mode, int... address) {
        return sized(1, mode, address);
    }

    private static int[][] byNumber(int mode, long v) {
        return sized(1, mode, Rows.number(v));
    }

    private static int[] window(int[][]... copies) {
        int makes = 0;
        int[] codes = {};
        int[] addresses = {};
        for (int[][] one : copies) {
            makes += one[0][1];
            codes = Rows.join(codes, one[0]);
            addresses = Rows.join(addresses, one[1]);
        }
        return Rows.window(1, HERE, 0, Rows.tail(makes, NO, codes, addresses));
    }

    /** SOURCE has 2000 octets, all of which are the windows' segment. */
    private static CodedDeltas object(int near, int same, int[]... windows) {
        CodedDeltas x = new CodedDeltas();
        x.fill(Rows.SOURCE, 0, HERE, 5);
        Tables.plain(x, near, same);
        Tables.tell(x, windows);
        return x;
    }

    /** These are the addresses of the instructions, from instruction k on. */
    private void due(CodedDeltas x, int k, int... addresses) {
        edges.isTrue("it is right: " + x.read(), x.told(0) == 0);
        for (int i = 0; i < addresses.length; i++) {
            edges.is("address of " + (k + i), x.instruction(k + i, 2), addresses[i]);
        }
    }

    private void fault(CodedDeltas x, int instructions) {
        edges.is("its fault", x.read(), -23);
        edges.is("instructions before it", x.told(3), instructions);
    }

    private void modes() {
        edges.test(PART, "0: the NUMBER a", () -> {
            due(object(4, 3, window(byNumber(0, 0), byNumber(0, HERE - 1))), 0, 0, HERE - 1);
            fault(object(4, 3, window(byNumber(0, HERE))), 0);
        });
        edges.test(PART, "1: the NUMBER HERE - a", () -> {
            due(object(4, 3, window(byNumber(1, 1), byNumber(1, HERE + 1))), 0, HERE - 1, 0);
            fault(object(4, 3, window(byNumber(1, 0))), 0);
            fault(object(4, 3, window(byNumber(1, HERE + 1))), 0);
            fault(object(4, 3, window(byNumber(1, 0x7FFFFFFF))), 0);
        });
        edges.test(PART, "2 .. NEAR + 1: the NUMBER a less the near one m - 2", () -> {
            for (int near = 1; near <= 8; near++) {
                int[][][] copies = new int[near + 2][][];
                for (int i = 0; i < near; i++) {
                    copies[i] = byNumber(0, 100 * (i + 1));
                }
                // The last near one, then the first, which the COPY before has taken.
                copies[near] = byNumber(near + 1, 5);
                copies[near + 1] = byNumber(2, 1);
                due(object(near, 3, window(copies)), near, 100 * near + 5, 100 * near + 6);
            }
        });
        edges.test(PART, "a near one and a NUMBER come to HERE - 1 at most", () -> {
            due(object(4, 3, window(byNumber(0, 1990), byNumber(2, 10))), 1, HERE);
            fault(object(4, 3, window(byNumber(0, 1990), byNumber(2, 11))), 1);
            fault(object(4, 3, window(byNumber(0, 1990), byNumber(2, 0x7FFFFFFF))), 1);
        });
        edges.test(PART, "above: an octet b with which the same one 256 (m - NEAR - 2) + b is a", () -> {
            for (int same = 1; same <= 4; same++) {
                for (int near : new int[] {0, 4, 8}) {
                    int last = 256 * same - 1;
                    due(object(near, same, window(byNumber(0, last), copy(near + same + 1, 255))), 1, last);
                    due(object(near, same, window(byNumber(0, 200), copy(near + 2, 200))), 1, 200);
                    due(object(near, same, window(byNumber(0, last - 255), copy(near + same + 1, 0))), 1, last - 255);
                }
            }
        });
    }

    private void rings() {
        edges.test(PART, "its a takes the ring's next place (first 0), which turns", () -> {
            due(object(4, 3, window(byNumber(0, 100), byNumber(0, 200), byNumber(0, 300), byNumber(0, 400),
                    byNumber(0, 500), byNumber(2, 0), byNumber(5, 0), byNumber(4, 0))), 5, 500, 400, 400);
            due(object(1, 3, window(byNumber(0, 100), byNumber(0, 200), byNumber(2, 0))), 2, 200);
            int[][][] nine = new int[11][][];
            for (int i = 0; i < 9; i++) {
                nine[i] = byNumber(0, 100 * (i + 1));
            }
            nine[9] = byNumber(2, 0);
            nine[10] = byNumber(9, 0);
            due(object(8, 0, window(nine)), 9, 900, 800);
        });
        edges.test(PART, "the ring's next place .. if there is one", () -> {
            due(object(0, 3, window(byNumber(0, 100), byNumber(0, 200), copy(2, 100))), 0, 100, 200, 100);
            due(object(0, 0, window(byNumber(0, 100), byNumber(1, 1))), 0, 100, HERE);
        });
        edges.test(PART, "Behind each COPY, also of 0 octets", () -> {
            due(object(4, 3, window(sized(0, 0, Rows.number(300)), byNumber(2, 0), sized(0, 0, 99), copy(6, 99))), 1,
                    300, 99, 99);
        });
        edges.test(PART, "Behind each COPY, also of a first part", () -> {
            CodedDeltas x = object(4, 3);
            Tables.part(x, 30, 0, Tables.COPY, 1, 0);
            Tables.part(x, 30, 1, Tables.COPY, 1, 2);
            Tables.tell(x, Rows.window(1, HERE, 0, Rows.tail(2, NO, Rows.of(30), Rows.of(70, 8))));
            due(x, 0, 70, 78);
        });
    }

    private void sameOnes() {
        edges.test(PART, "the place a modulo (256 SAME) of the same ones", () -> {
            for (int same = 1; same <= 4; same++) {
                int all = 256 * same;
                due(object(4, same, window(byNumber(0, all), copy(6, 0))), 1, all);
                due(object(4, same, window(byNumber(0, all - 1), copy(5 + same, 255))), 1, all - 1);
                due(object(4, same, window(byNumber(0, 5), byNumber(0, all + 5), copy(6, 5))), 2, all + 5);
            }
        });
        edges.test(PART, "if SAME is not 0", () -> {
            due(object(4, 0, window(byNumber(0, 256), byNumber(0, 1999), byNumber(5, 3))), 0, 256, 1999, 3);
        });
        edges.test(PART, "all 0: a same one that no COPY has taken is 0", () -> {
            due(object(4, 3, window(copy(6, 0), copy(8, 255), copy(7, 128))), 0, 0, 0, 0);
        });
    }

    private void beginnings() {
        edges.test(PART, "all 0 at a window's beginning: the near ones", () -> {
            int[] first = window(byNumber(0, 100), byNumber(0, 200), byNumber(0, 300), byNumber(0, 400));
            due(object(4, 3, first, window(byNumber(5, 7), byNumber(3, 8))), 4, 7, 8);
        });
        edges.test(PART, "all 0 at a window's beginning: the same ones", () -> {
            due(object(4, 3, window(byNumber(0, 70), byNumber(0, 767)), window(copy(6, 70), copy(8, 255))), 2, 0, 0);
        });
        edges.test(PART, "the ring's next place (first 0), in each window", () -> {
            due(object(4, 3, window(byNumber(0, 100)), window(byNumber(0, 300), byNumber(3, 7), byNumber(2, 0))), 1,
                    300, 7, 300);
        });
    }

    private void here() {
        edges.test(PART, "Of a window U is: its segment, then what it makes", () -> {
            CodedDeltas x = object(4, 3);
            int[] codes = {10, 1, 10, 1, 10, 1};
            Tables.tell(x, Rows.window(1, 10, 1500, Rows.tail(3, NO, codes, Rows.of(9, 0, 11))));
            due(x, 0, 9, 0, 11);
            edges.is("the segment's last", x.octet(Rows.TARGET, 0), x.octet(Rows.SOURCE, 1509));
            edges.is("the segment's first", x.octet(Rows.TARGET, 1), x.octet(Rows.SOURCE, 1500));
            edges.is("the second one made", x.octet(Rows.TARGET, 2), x.octet(Rows.SOURCE, 1500));
        });
        edges.test(PART, "HERE is how many octets of U there are where a COPY begins", () -> {
            CodedDeltas x = object(4, 3);
            Tables.tell(x, Rows.window(2, Rows.of(7), Rows.of(1, 1, 10, 1), Rows.of(0)));
            due(x, 1, 0);
            Tables.tell(x, Rows.window(2, Rows.of(7), Rows.of(1, 1, 10, 1), Rows.of(1)));
            fault(x, 1);
            Tables.tell(x, Rows.window(1, NO, Rows.of(10, 1), Rows.of(0)));
            fault(x, 0);
            Tables.part(x, 30, 0, Tables.ADD, 1, 0);
            Tables.part(x, 30, 1, Tables.COPY, 1, 1);
            Tables.tell(x, Rows.window(1, 10, 0, Rows.tail(2, Rows.of(7), Rows.of(30), Rows.of(1))));
            due(x, 1, 10);
            edges.is("what the first part made", x.octet(Rows.TARGET, 1), 7);
        });
    }
}
