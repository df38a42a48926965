/** Boundary cases of the rows: 'Terms', ROWS, and promises 1 to 8. */
final class EdgesOfRows {
    private static final int[] ROOMS = {4000, 4000, 8000, 8000};
    private static final int[] NO_ROWS = {-1, 4, Integer.MIN_VALUE, Integer.MAX_VALUE};
    private static final int LEAST = Integer.MIN_VALUE;
    private static final int MOST = Integer.MAX_VALUE;

    private final Edges edges;

    EdgesOfRows(Edges edges) {
        this.edges = edges;
    }

    void run() {
        edges.test("Terms ROWS", "SOURCE, TARGET (4000 octets at most each)", () -> {
            roomOf(Rows.SOURCE);
            roomOf(Rows.TARGET);
        });
        edges.test("Terms ROWS", "DELTA (8000)", () -> roomOf(Rows.DELTA));
        edges.test("Terms ROWS", "SECOND (8000)", () -> roomOf(Rows.SECOND));
        edges.test("Promise 1", "Empty rows", this::emptyRows);
        edges.test("Promise 1", "OWN TABLE like the first one", this::ownTableAtFirst);
        edges.test("Promise 1", "A new object has nothing of another one", this::anotherObject);
        feed();
        fill();
        copy();
        single();
    }

    private void roomOf(int row) {
        int room = ROOMS[row];
        CodedDeltas x = new CodedDeltas();
        edges.is("fill with one too many", x.fill(row, 0, room + 1, 1), -4);
        edges.is("fill with all", x.fill(row, 0, room, 1), room);
        edges.is("length", x.length(row), room);
        edges.isTrue("the last octet is there", x.octet(row, room - 1) >= 0);
        edges.is("none behind it", x.octet(row, room), -1);
        edges.is("feed one more", x.feed(row, 1, 1), -4);
        edges.is("fill one more", x.fill(row, 0, 1, 1), -4);
        edges.is("copy one more", x.copy(row, 0, 1, row), -4);
        edges.is("the last goes", x.cut(row, room - 1), room);
        edges.is("one comes again", x.feed(row, 77, 1), room);
        edges.is("it is there", x.octet(row, room - 1), 77);
    }

    private void emptyRows() {
        CodedDeltas x = new CodedDeltas();
        for (int row = 0; row < 4; row++) {
            edges.is("length", x.length(row), 0);
            edges.is("octet 0", x.octet(row, 0), -1);
            edges.is("alter 0", x.alter(row, 0, 1), -1);
            edges.is("cut to 0", x.cut(row, 0), 0);
            edges.is("cut to 1", x.cut(row, 1), -2);
            edges.is("copy none", x.copy(row, 0, 0, 3 - row), 0);
            edges.is("copy one", x.copy(row, 0, 1, 3 - row), -2);
            edges.is("emptied once more", x.feed(row, 5, 0), 0);
        }
    }

    private void ownTableAtFirst() {
        CodedDeltas x = new CodedDeltas();
        for (int i = -1; i < 1536; i++) {
            edges.is("octet " + i, x.code(1, i), x.code(0, i));
        }
        edges.isTrue("written", x.write(0, 0, 50, true) > 0);
        edges.is("its NEAR", x.octet(Rows.DELTA, 6), 4);
        edges.is("its SAME", x.octet(Rows.DELTA, 7), 3);
    }

    private void anotherObject() {
        CodedDeltas x = new CodedDeltas();
        x.feed(Rows.SOURCE, 1, 1);
        x.tableOctet(0, 3);
        x.caches(0, 0);
        x.feed(Rows.DELTA, 1, 1);
        x.read();
        CodedDeltas y = new CodedDeltas();
        edges.is("its row", y.length(Rows.SOURCE), 0);
        edges.is("its table", y.code(1, 0), 2);
        edges.is("its table is RIGHT", y.code(1, -1), 1);
        edges.is("what is told", y.told(0), 0);
    }

    private void feed() {
        edges.test("Promise 2", "The n lowest octets of v, the highest first", () -> {
            CodedDeltas x = new CodedDeltas();
            edges.is("one", x.feed(3, 0x0102030405060708L, 1), 1);
            edges.is("eight, the highest bit set", x.feed(3, 0x8182838485868788L, 8), 9);
            edges.is("two of -1", x.feed(3, -1, 2), 11);
            int[] due = {8, 0x81, 0x82, 0x83, 0x84, 0x85, 0x86, 0x87, 0x88, 255, 255};
            for (int i = 0; i < due.length; i++) {
                edges.is("octet " + i, x.octet(3, i), due[i]);
            }
        });
        edges.test("Promise 2", "with n = 0 it is empty: 0", () -> {
            for (int row = 0; row < 4; row++) {
                CodedDeltas x = new CodedDeltas();
                x.fill(row, 0, ROOMS[row], 1);
                edges.is("a full row", x.feed(row, 255, 0), 0);
                edges.is("its length", x.length(row), 0);
                edges.is("no octet is left", x.octet(row, 0), -1);
                edges.is("the next is its first", x.feed(row, 9, 1), 1);
                edges.is("octet 0", x.octet(row, 0), 9);
            }
        });
        edges.test("Promise 2", "-2 no such row", () -> {
            for (int row : NO_ROWS) {
                edges.is("feed to row " + row, new CodedDeltas().feed(row, 1, 1), -2);
                edges.is("row " + row + " made empty", new CodedDeltas().feed(row, 1, 0), -2);
            }
        });
        edges.test("Promise 2", "-2 n is not 0 .. 8", () -> {
            CodedDeltas x = new CodedDeltas();
            x.feed(0, 7, 1);
            for (int n : new int[] {-1, 9, LEAST, MOST, -8}) {
                edges.is("n " + n, x.feed(0, 1, n), -2);
            }
            edges.is("nothing came", x.length(0), 1);
            edges.is("n 8", x.feed(0, 1, 8), 9);
        });
        edges.test("Promise 2", "-4", () -> {
            for (int row = 0; row < 4; row++) {
                int room = ROOMS[row];
                CodedDeltas x = new CodedDeltas();
                x.fill(row, 0, room - 7, 1);
                edges.is("one too many", x.feed(row, -1, 8), -4);
                edges.is("nothing came", x.length(row), room - 7);
                edges.is("-2 before -4", x.feed(row, -1, 9), -2);
                edges.is("all that go", x.feed(row, -1, 7), room);
            }
        });
    }

    /** A seed with which the first r is this one. */
    private static int seedFor(int r) {
        int inverse = 1;
        for (int i = 0; i < 5; i++) {
            inverse *= 2 - 1664525 * inverse;
        }
        return ((r << 24) + 0x123456 - 1013904223) * inverse;
    }

    private int filled(int kind, int r, int... before) {
        CodedDeltas x = new CodedDeltas();
        Rows.set(x, 1, before);
        edges.is("how many it has", x.fill(1, kind, 1, seedFor(r)), before.length + 1);
        return x.octet(1, before.length);
    }

    private void fill() {
        edges.test("Promise 3", "z * 1664525 + 1013904223 (32 bits), r its highest eight", () -> {
            for (int seed : new int[] {0, 1, -1, LEAST, MOST, 0x7654321}) {
                CodedDeltas x = new CodedDeltas();
                x.fill(2, 0, 40, seed);
                long z = seed;
                for (int i = 0; i < 40; i++) {
                    z = (z * 1664525 + 1013904223) % (1L << 32);
                    z += z < 0 ? 1L << 32 : 0;
                    edges.is("seed " + seed + ", octet " + i, x.octet(2, i), z / (1 << 24));
                }
            }
        });
        edges.test("Promise 3", "kind 0 r", () -> {
            for (int r : new int[] {0, 127, 128, 255}) {
                edges.is("r " + r, filled(0, r, 9), r);
            }
        });
        edges.test("Promise 3", "1 97 + r mod 4", () -> {
            for (int r : new int[] {0, 3, 4, 127, 128, 254, 255}) {
                edges.is("r " + r, filled(1, r, 9), 97 + r % 4);
            }
        });
        edges.test("Promise 3", "2 the one 17 before it in the row, if there is one", () -> {
            int[] sixteen = new int[16];
            sixteen[0] = 99;
            int[] seventeen = new int[17];
            seventeen[0] = 99;
            edges.is("in an empty row", filled(2, 5), 5);
            edges.is("behind 16", filled(2, 5, sixteen), 5);
            edges.is("behind 17", filled(2, 5, seventeen), 99);
        });
        edges.test("Promise 3", "2 .. and r is below 240, else r", () -> {
            int[] seventeen = new int[17];
            seventeen[0] = 99;
            edges.is("239", filled(2, 239, seventeen), 99);
            edges.is("240", filled(2, 240, seventeen), 240);
            edges.is("255", filled(2, 255, seventeen), 255);
            edges.is("0", filled(2, 0, seventeen), 99);
        });
        edges.test("Promise 3", "3 the one before it, if there is one", () -> {
            edges.is("in an empty row", filled(3, 5), 5);
            edges.is("behind one", filled(3, 5, 99), 99);
            edges.is("behind two", filled(3, 5, 98, 99), 99);
        });
        edges.test("Promise 3", "3 .. and r is below 230, else r", () -> {
            edges.is("229", filled(3, 229, 99), 99);
            edges.is("230", filled(3, 230, 99), 230);
            edges.is("255", filled(3, 255, 99), 255);
        });
        edges.test("Promise 3", "N octets .. come behind a row: how many it has, also if n is 0", () -> {
            CodedDeltas x = new CodedDeltas();
            edges.is("none in an empty row", x.fill(0, 2, 0, 1), 0);
            edges.is("all", x.fill(0, 0, 4000, 1), 4000);
            edges.is("none in a full row", x.fill(0, 0, 0, 1), 4000);
        });
        edges.test("Promise 3", "-2 no such row", () -> {
            for (int row : NO_ROWS) {
                edges.is("row " + row, new CodedDeltas().fill(row, 0, 1, 1), -2);
                edges.is("none to row " + row, new CodedDeltas().fill(row, 0, 0, 1), -2);
            }
        });
        edges.test("Promise 3", "-2 the kind is not 0 .. 3", () -> {
            for (int kind : new int[] {-1, 4, LEAST, MOST}) {
                CodedDeltas x = new CodedDeltas();
                edges.is("kind " + kind, x.fill(0, kind, 1, 1), -2);
                edges.is("-2 before -4", x.fill(0, kind, 4001, 1), -2);
                edges.is("nothing came", x.length(0), 0);
            }
            edges.is("kind 3", new CodedDeltas().fill(0, 3, 1, 1), 1);
        });
        edges.test("Promise 3", "-2 n below 0", () -> {
            edges.is("n -1", new CodedDeltas().fill(0, 0, -1, 1), -2);
            edges.is("n least", new CodedDeltas().fill(0, 0, LEAST, 1), -2);
        });
        edges.test("Promise 3", "-4", () -> {
            for (int row = 0; row < 4; row++) {
                CodedDeltas x = new CodedDeltas();
                x.feed(row, 1, 1);
                edges.is("one too many", x.fill(row, 0, ROOMS[row], 1), -4);
                edges.is("the most of all", x.fill(row, 0, MOST, 1), -4);
                edges.is("nothing came", x.length(row), 1);
                edges.is("all that go", x.fill(row, 0, ROOMS[row] - 1, 1), ROOMS[row]);
            }
        });
    }

    private static CodedDeltas five() {
        CodedDeltas x = new CodedDeltas();
        Rows.set(x, 0, 10, 11, 12, 13, 14);
        return x;
    }

    private void copy() {
        edges.test("Promise 4", "come behind another one (or itself)", () -> {
            CodedDeltas x = five();
            edges.is("all to itself", x.copy(0, 0, 5, 0), 10);
            edges.is("from its last on", x.copy(0, 9, 1, 0), 11);
            for (int i = 0; i < 10; i++) {
                edges.is("octet " + i, x.octet(0, i), 10 + i % 5);
            }
            edges.is("octet 10", x.octet(0, 10), 14);
            edges.is("the last to another", x.copy(0, 4, 1, 3), 1);
            edges.is("it", x.octet(3, 0), 14);
        });
        edges.test("Promise 4", "-2 no such rows", () -> {
            for (int row : NO_ROWS) {
                edges.is("from row " + row, five().copy(row, 0, 0, 1), -2);
                edges.is("to row " + row, five().copy(0, 0, 1, row), -2);
                edges.is("none to row " + row, five().copy(0, 0, 0, row), -2);
            }
        });
        edges.test("Promise 4", "-2 not so many octets there from that place on", () -> {
            edges.is("one too many", five().copy(0, 0, 6, 1), -2);
            edges.is("all", five().copy(0, 0, 5, 1), 5);
            edges.is("one too many from the last on", five().copy(0, 4, 2, 1), -2);
            edges.is("one from the end on", five().copy(0, 5, 1, 1), -2);
            edges.is("from before the row", five().copy(0, -1, 1, 1), -2);
            edges.is("n below 0", five().copy(0, 2, -1, 1), -2);
            edges.is("n below 0 from the end", five().copy(0, 5, -5, 1), -2);
        });
        edges.test("Promise 4", "-2 also where place and n together are beyond 32 bits", () -> {
            edges.is("both the most", five().copy(0, MOST, MOST, 1), -2);
            edges.is("n the most", five().copy(0, 5, MOST, 1), -2);
            edges.is("the place the most", five().copy(0, MOST, 5, 1), -2);
            edges.is("the place the least", five().copy(0, LEAST, LEAST, 1), -2);
            edges.is("n the least", five().copy(0, 0, LEAST, 1), -2);
        });
        edges.test("Promise 4", "with n 0 it may be up to how many the row has", () -> {
            edges.is("none from the end", five().copy(0, 5, 0, 1), 0);
            edges.is("none from behind the end", five().copy(0, 6, 0, 1), -2);
            edges.is("none from before the row", five().copy(0, -1, 0, 1), -2);
            edges.is("none of an empty row", five().copy(1, 0, 0, 0), 5);
            edges.is("none of an empty row from 1", five().copy(1, 1, 0, 0), -2);
        });
        edges.test("Promise 4", "-4", () -> {
            for (int to = 1; to < 4; to++) {
                CodedDeltas x = five();
                x.fill(to, 0, ROOMS[to] - 4, 1);
                edges.is("one too many", x.copy(0, 0, 5, to), -4);
                edges.is("nothing came", x.length(to), ROOMS[to] - 4);
                edges.is("-2 before -4", x.copy(0, 1, 5, to), -2);
                edges.is("all that go", x.copy(0, 1, 4, to), ROOMS[to]);
                edges.is("none to a full row", x.copy(0, 0, 0, to), ROOMS[to]);
            }
            CodedDeltas x = new CodedDeltas();
            x.fill(2, 0, 8000, 1);
            edges.is("more than SOURCE holds", x.copy(2, 0, 4001, 0), -4);
            edges.is("as many as SOURCE holds", x.copy(2, 4000, 4000, 0), 4000);
            x.cut(2, 4001);
            edges.is("a row twice, one too many", x.copy(2, 0, 4000, 2), -4);
        });
    }

    private void single() {
        edges.test("Promise 5", "-1 there is none", () -> {
            CodedDeltas x = five();
            edges.is("behind the last", x.alter(0, 5, 1), -1);
            edges.is("before the first", x.alter(0, -1, 1), -1);
            edges.is("the most", x.alter(0, MOST, 1), -1);
            edges.is("the least", x.alter(0, LEAST, 1), -1);
            edges.is("the first", x.alter(0, 0, 1), 10);
            edges.is("the last", x.alter(0, 4, 1), 14);
            x.cut(0, 4);
            edges.is("one that was cut off", x.alter(0, 4, 1), -1);
            for (int row : NO_ROWS) {
                edges.is("row " + row, x.alter(row, 0, 1), -1);
            }
        });
        edges.test("Promise 5", "-2 v is not 0 .. 255", () -> {
            CodedDeltas x = five();
            for (int v : new int[] {-1, 256, LEAST, MOST}) {
                edges.is("v " + v, x.alter(0, 2, v), -2);
            }
            edges.is("octet 2 stays", x.octet(0, 2), 12);
            edges.is("v 255", x.alter(0, 2, 255), 12);
            edges.is("v 0", x.alter(0, 2, 0), 255);
            edges.is("octet 2", x.octet(0, 2), 0);
        });
        edges.test("Promise 5", "-1 comes before -2", () -> {
            edges.is("no octet, no v", five().alter(0, 5, 256), -1);
            edges.is("no row, no v", five().alter(4, 0, -1), -1);
        });
        edges.test("Promise 6", "-2 no such row", () -> {
            for (int row : NO_ROWS) {
                edges.is("row " + row, five().cut(row, 0), -2);
            }
        });
        edges.test("Promise 6", "-2 n is not 0 .. that", () -> {
            CodedDeltas x = five();
            for (int n : new int[] {6, -1, LEAST, MOST}) {
                edges.is("cut to " + n, x.cut(0, n), -2);
                edges.is("it has all", x.length(0), 5);
            }
        });
        edges.test("Promise 6", "A row keeps its first n octets: how many it had", () -> {
            CodedDeltas x = five();
            edges.is("to all", x.cut(0, 5), 5);
            edges.is("to 4", x.cut(0, 4), 5);
            edges.is("the fourth is kept", x.octet(0, 3), 13);
            edges.is("the fifth is not", x.octet(0, 4), -1);
            edges.is("the next comes behind", x.feed(0, 77, 1), 5);
            edges.is("there", x.octet(0, 4), 77);
            edges.is("to 0", x.cut(0, 0), 5);
            edges.is("it is empty", x.length(0), 0);
            edges.is("to 0 once more", x.cut(0, 0), 0);
        });
        edges.test("Promise 7", "How many octets a row has. -1.", () -> {
            for (int row : NO_ROWS) {
                edges.is("row " + row, five().length(row), -1);
            }
            edges.is("an empty row", five().length(3), 0);
            edges.is("row 0", five().length(0), 5);
        });
        edges.test("Promise 8", "-1 there is none", () -> {
            CodedDeltas x = five();
            for (int i : new int[] {5, -1, LEAST, MOST}) {
                edges.is("octet " + i, x.octet(0, i), -1);
            }
            edges.is("the first", x.octet(0, 0), 10);
            edges.is("the last", x.octet(0, 4), 14);
            edges.is("of an empty row", x.octet(1, 0), -1);
            for (int row : NO_ROWS) {
                edges.is("row " + row, x.octet(row, 0), -1);
            }
            x.cut(0, 2);
            edges.is("one that was cut off", x.octet(0, 2), -1);
        });
    }
}
