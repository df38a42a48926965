/** Boundary cases of the tables: 'Terms', 1 CODES, and promises 9 to 11. */
final class EdgesOfTables {
    private static final int LEAST = Integer.MIN_VALUE;
    private static final int MOST = Integer.MAX_VALUE;

    private final Edges edges;

    EdgesOfTables(Edges edges) {
        this.edges = edges;
    }

    void run() {
        firstTable();
        right();
        promises();
    }

    private void code(int code, int... due) {
        CodedDeltas x = new CodedDeltas();
        int[] sections = {0, 512, 1024, 256, 768, 1280};
        String[] names = {"first part", "its SIZE", "its MODE", "second part", "its SIZE", "its MODE"};
        for (int i = 0; i < 6; i++) {
            edges.is("code " + code + ", " + names[i], x.code(0, sections[i] + code), due[i]);
        }
    }

    private void firstTable() {
        edges.test("Terms 1 CODES", "a STRING of 1536 octets", () -> {
            CodedDeltas x = new CodedDeltas();
            for (int table = 0; table < 2; table++) {
                edges.is("its first octet", x.code(table, 0), 2);
                edges.is("its last octet", x.code(table, 1535), 0);
                edges.is("none behind it", x.code(table, 1536), -1);
            }
        });
        edges.test("Terms 1 CODES", "code 0: RUN 0; 1 .. 18: ADD 0, 1, .. 17", () -> {
            code(0, 2, 0, 0, 0, 0, 0);
            code(1, 1, 0, 0, 0, 0, 0);
            code(2, 1, 1, 0, 0, 0, 0);
            code(18, 1, 17, 0, 0, 0, 0);
        });
        edges.test("Terms 1 CODES", "then for each MODE 0 .. 8: COPY 0, COPY 4, 5, .. 18", () -> {
            for (int mode = 0; mode <= 8; mode++) {
                code(19 + 16 * mode, 3, 0, mode, 0, 0, 0);
                code(20 + 16 * mode, 3, 4, mode, 0, 0, 0);
                code(34 + 16 * mode, 3, 18, mode, 0, 0, 0);
            }
        });
        edges.test("Terms 1 CODES", "for each MODE 0 .. 5, ADD 1 .. 4, .. COPY 4, 5, 6 (as second part)", () -> {
            for (int mode = 0; mode <= 5; mode++) {
                code(163 + 12 * mode, 1, 1, 0, 3, 4, mode);
                code(165 + 12 * mode, 1, 1, 0, 3, 6, mode);
                code(166 + 12 * mode, 1, 2, 0, 3, 4, mode);
                code(174 + 12 * mode, 1, 4, 0, 3, 6, mode);
            }
        });
        edges.test("Terms 1 CODES", "then for each MODE 6 .. 8, ADD 1 .. 4, and COPY 4", () -> {
            for (int mode = 6; mode <= 8; mode++) {
                code(235 + 4 * (mode - 6), 1, 1, 0, 3, 4, mode);
                code(238 + 4 * (mode - 6), 1, 4, 0, 3, 4, mode);
            }
        });
        edges.test("Terms 1 CODES", "then for each MODE 0 .. 8: COPY 4, and ADD 1", () -> {
            for (int mode = 0; mode <= 8; mode++) {
                code(247 + mode, 3, 4, mode, 1, 1, 0);
            }
        });
        edges.test("Terms 1 CODES", "SIZES and MODES of nothing, MODES of ADD and RUN are 0", () -> {
            CodedDeltas x = new CodedDeltas();
            for (int i = 0; i < 512; i++) {
                if (x.code(0, i) == 0) {
                    edges.is("SIZE of nothing at " + i, x.code(0, 512 + i), 0);
                }
                if (x.code(0, i) != 3) {
                    edges.is("MODE at " + i, x.code(0, 1024 + i), 0);
                }
            }
        });
        edges.test("Terms 1 CODES", "THE FIRST TABLE stays, whatever OWN TABLE becomes", () -> {
            CodedDeltas x = new CodedDeltas();
            for (int i = 0; i < 1536; i++) {
                int before = x.code(0, i);
                x.tableOctet(i, 255);
                edges.is("octet " + i, x.code(0, i), before);
            }
            edges.is("it is RIGHT", x.code(0, -1), 1);
        });
    }

    private static CodedDeltas own(int near, int same, int place, int kind, int mode) {
        CodedDeltas x = new CodedDeltas();
        Tables.clear(x);
        x.caches(near, same);
        x.tableOctet(place, kind);
        x.tableOctet(1024 + place, mode);
        return x;
    }

    private void right() {
        int[] places = {0, 255, 256, 511};
        edges.test("Terms 1 RIGHT", "all its parts are 0 .. 3", () -> {
            for (int place : places) {
                edges.is("3 at " + place, own(0, 0, place, 3, 0).code(1, -1), 1);
                edges.is("4 at " + place, own(0, 0, place, 4, 0).code(1, -1), 0);
                edges.is("255 at " + place, own(8, 4, place, 255, 0).code(1, -1), 0);
            }
        });
        edges.test("Terms 1 RIGHT", "all MODES of COPY below NEAR + SAME + 2", () -> {
            int[][] caches = {{0, 0}, {8, 0}, {0, 4}, {8, 4}, {4, 3}};
            for (int[] c : caches) {
                int modes = c[0] + c[1] + 2;
                for (int place : places) {
                    edges.is("the last MODE", own(c[0], c[1], place, 3, modes - 1).code(1, -1), 1);
                    edges.is("the one behind", own(c[0], c[1], place, 3, modes).code(1, -1), 0);
                    edges.is("MODE 255", own(c[0], c[1], place, 3, 255).code(1, -1), 0);
                }
            }
        });
        edges.test("Terms 1 RIGHT", "MODES of other parts may be any", () -> {
            for (int kind = 0; kind < 3; kind++) {
                for (int place : places) {
                    edges.is("MODE 255 of " + kind, own(0, 0, place, kind, 255).code(1, -1), 1);
                }
            }
        });
        edges.test("Terms 1 RIGHT", "SIZES may be 0 .. 255", () -> {
            CodedDeltas x = new CodedDeltas();
            for (int i = 512; i < 1024; i++) {
                x.tableOctet(i, 255);
            }
            edges.is("all 255", x.code(1, -1), 1);
        });
    }

    private void promises() {
        edges.test("Promise 9", "-1 there is none", () -> {
            CodedDeltas x = new CodedDeltas();
            for (int i : new int[] {-1, 1536, LEAST, MOST}) {
                edges.is("octet " + i, x.tableOctet(i, 1), -1);
            }
            edges.is("the first", x.tableOctet(0, 7), 2);
            edges.is("the last", x.tableOctet(1535, 9), 0);
            edges.is("the first is", x.code(1, 0), 7);
            edges.is("the last is", x.code(1, 1535), 9);
        });
        edges.test("Promise 9", "-2 v is not 0 .. 255", () -> {
            CodedDeltas x = new CodedDeltas();
            for (int v : new int[] {-1, 256, LEAST, MOST}) {
                edges.is("v " + v, x.tableOctet(18, v), -2);
            }
            edges.is("it stays", x.code(1, 18), 1);
            edges.is("v 255", x.tableOctet(18, 255), 1);
            edges.is("v 0", x.tableOctet(18, 0), 255);
        });
        edges.test("Promise 9", "-1 comes before -2", () -> {
            edges.is("behind the last", new CodedDeltas().tableOctet(1536, 256), -1);
            edges.is("before the first", new CodedDeltas().tableOctet(-1, -1), -1);
        });
        edges.test("Promise 10", "-2 near is not 0 .. 8", () -> {
            for (int near : new int[] {-1, 9, LEAST, MOST}) {
                edges.is("near " + near, new CodedDeltas().caches(near, 0), -2);
            }
            edges.is("near 0", new CodedDeltas().caches(0, 3), 1);
            edges.is("near 8", new CodedDeltas().caches(8, 3), 1);
        });
        edges.test("Promise 10", "-2 same not 0 .. 4", () -> {
            for (int same : new int[] {-1, 5, LEAST, MOST}) {
                edges.is("same " + same, new CodedDeltas().caches(0, same), -2);
            }
            edges.is("same 0", new CodedDeltas().caches(4, 0), 1);
            edges.is("same 4", new CodedDeltas().caches(4, 4), 1);
        });
        edges.test("Promise 10", "a refused call changes neither", () -> {
            CodedDeltas x = new CodedDeltas();
            x.caches(7, 2);
            x.caches(5, 5);
            x.caches(9, 1);
            x.write(0, 0, 50, true);
            edges.is("NEAR", x.octet(Rows.DELTA, 6), 7);
            edges.is("SAME", x.octet(Rows.DELTA, 7), 2);
        });
        edges.test("Promise 11", "-1 there is none", () -> {
            CodedDeltas x = new CodedDeltas();
            for (int i : new int[] {-2, 1536, LEAST, MOST}) {
                edges.is("the first one's octet " + i, x.code(0, i), -1);
                edges.is("OWN TABLE's octet " + i, x.code(1, i), -1);
            }
            for (int table : new int[] {-1, 2, LEAST, MOST}) {
                edges.is("table " + table, x.code(table, 0), -1);
                edges.is("whether table " + table + " is RIGHT", x.code(table, -1), -1);
            }
        });
        edges.test("Promise 11", "for i = -1: whether it is RIGHT", () -> {
            CodedDeltas x = new CodedDeltas();
            edges.is("the first one", x.code(0, -1), 1);
            edges.is("OWN TABLE", x.code(1, -1), 1);
            x.tableOctet(0, 4);
            edges.is("with a part 4", x.code(1, -1), 0);
            edges.is("the first one still", x.code(0, -1), 1);
            x.tableOctet(0, 2);
            edges.is("mended", x.code(1, -1), 1);
        });
    }
}
