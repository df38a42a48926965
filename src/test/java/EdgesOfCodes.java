import java.util.Arrays;

/** Boundary cases of 'Terms', 3 WRITING: CODES and OWN TABLE's data. */
final class EdgesOfCodes {
    private static final String CODES = "Terms 3 CODES";
    private static final String OWN_TABLE = "Terms 3 OWN TABLE";
    private static final int NOTHING = 0;
    private static final int ADD = 1;
    private static final int RUN = 2;
    private static final int COPY = 3;

    private final Edges edges;

    EdgesOfCodes(Edges edges) {
        this.edges = edges;
    }

    void run() {
        firstTable();
        pairs();
        pairSizes();
        singles();
        sizeless();
        none();
        windows();
        ownTable();
        ownTableData();
    }

    private static int[] of(int... octets) {
        return octets;
    }

    /** OWN TABLE has no part yet, and no caches; TARGET is written by WAY 1 from SOURCE. */
    private static CodedDeltas object(String source, String target) {
        CodedDeltas x = new CodedDeltas();
        Rows.setText(x, Rows.SOURCE, source);
        Rows.setText(x, Rows.TARGET, target);
        Tables.clear(x);
        x.caches(0, 0);
        return x;
    }

    private static void part(CodedDeltas x, int code, int part, int kind, int size, int mode) {
        Tables.part(x, code, part, kind, size, mode);
    }

    /** Written with OWN TABLE, the instructions have these codes, and CODES has these octets. */
    private void codes(String what, CodedDeltas x, int[] codes, int... octets) {
        int target = x.length(Rows.TARGET);
        int size = x.write(1, 1, 4000, true);
        edges.isTrue(what + ", written: " + size, size > 0);
        for (int k = 0; k < codes.length; k++) {
            edges.is(what + ", code of " + k, x.instruction(k, 4), codes[k]);
        }
        edges.is(what + ", no more", x.instruction(codes.length, 0), -1);
        int copies = 0;
        for (int k = 0; k < codes.length; k++) {
            copies += x.instruction(k, 0) == COPY ? 1 : 0;
        }
        // Each address has one octet here, and stands behind CODES.
        for (int i = 0; i < octets.length; i++) {
            edges.is(what + ", octet " + i, x.octet(Rows.DELTA, size - copies - octets.length + i), octets[i]);
        }
        edges.is(what + ", it reads", x.read(), target);
    }

    private void refused(String what, CodedDeltas x) {
        edges.is(what, x.write(1, 1, 4000, true), -5);
    }

    private void firstTable() {
        edges.test(CODES, "by the first table: sizes at the ends of what it has", () -> {
            int[][] adds = {{1, 2}, {17, 18}, {18, 1}};
            for (int[] add : adds) {
                CodedDeltas x = new CodedDeltas();
                x.fill(Rows.TARGET, 0, add[0], 3);
                x.write(1, 1, 4000, false);
                edges.is("ADD " + add[0], x.instruction(0, 4), add[1]);
            }
            int[][] copies = {{4, 20}, {18, 34}, {19, 19}};
            for (int[] copy : copies) {
                CodedDeltas x = new CodedDeltas();
                x.fill(Rows.SOURCE, 0, 60, 3);
                x.copy(Rows.SOURCE, 0, copy[0], Rows.TARGET);
                x.write(1, 1, 4000, false);
                edges.is("COPY " + copy[0], x.instruction(0, 4), copy[1]);
            }
        });
        edges.test(CODES, "by the first table: pairs at the ends of what it has", () -> {
            int[][] pairs = {{1, 4, 163}, {4, 6, 174}, {4, 7, 5}, {5, 6, 6}};
            for (int[] pair : pairs) {
                CodedDeltas x = new CodedDeltas();
                x.fill(Rows.SOURCE, 0, 60, 3);
                x.fill(Rows.TARGET, 0, pair[0], 77);
                x.copy(Rows.SOURCE, 0, pair[1], Rows.TARGET);
                x.write(1, 1, 4000, false);
                edges.is("ADD " + pair[0] + ", COPY " + pair[1], x.instruction(0, 4), pair[2]);
            }
            int[][] others = {{4, 1, 247}, {4, 2, 20}, {5, 1, 21}};
            for (int[] pair : others) {
                CodedDeltas x = new CodedDeltas();
                x.fill(Rows.SOURCE, 0, 60, 3);
                x.copy(Rows.SOURCE, 0, pair[0], Rows.TARGET);
                x.fill(Rows.TARGET, 0, pair[1], 77);
                x.write(1, 1, 4000, false);
                edges.is("COPY " + pair[0] + ", ADD " + pair[1], x.instruction(0, 4), pair[2]);
            }
        });
    }

    private void pairs() {
        edges.test(CODES, "a code whose first part is this instruction, .. second part is the next one: the least", () -> {
            CodedDeltas x = object("abcd", "abcdX");
            part(x, 255, 0, COPY, 4, 0);
            part(x, 255, 1, ADD, 1, 0);
            codes("255 alone", x, of(255, 255), 255);
            part(x, 9, 0, COPY, 4, 0);
            part(x, 9, 1, ADD, 1, 0);
            codes("9 and 255", x, of(9, 9), 9);
            part(x, 0, 0, COPY, 4, 0);
            part(x, 0, 1, ADD, 1, 0);
            codes("0 and others", x, of(0, 0), 0);
        });
        edges.test(CODES, "a pair comes before codes of one part, though these be less", () -> {
            CodedDeltas x = object("abcd", "abcdX");
            part(x, 1, 0, COPY, 4, 0);
            part(x, 2, 0, ADD, 1, 0);
            codes("no pair", x, of(1, 2), 1, 2);
            part(x, 200, 0, COPY, 4, 0);
            part(x, 200, 1, ADD, 1, 0);
            codes("a pair", x, of(200, 200), 200);
        });
        edges.test(CODES, "in the order of instructions: what is behind a pair begins anew", () -> {
            CodedDeltas x = object("abcdefgh", "abcdXefgh");
            part(x, 5, 0, COPY, 4, 0);
            part(x, 5, 1, ADD, 1, 0);
            part(x, 4, 0, ADD, 1, 0);
            part(x, 4, 1, COPY, 4, 0);
            part(x, 6, 0, COPY, 4, 0);
            codes("the first two are one", x, of(5, 5, 6), 5, 6);
        });
        edges.test(CODES, "a pair has the MODE of a COPY, not that of an ADD", () -> {
            CodedDeltas x = object("abcd", "abcdX");
            part(x, 1, 0, COPY, 4, 0);
            part(x, 2, 0, ADD, 1, 0);
            part(x, 3, 0, COPY, 4, 1);
            part(x, 3, 1, ADD, 1, 0);
            codes("another MODE", x, of(1, 2), 1, 2);
            part(x, 4, 0, COPY, 4, 0);
            part(x, 4, 1, ADD, 1, 99);
            codes("any MODE of ADD", x, of(4, 4), 4);
        });
    }

    private void pairSizes() {
        edges.test(CODES, "a pair has its sizes (not 0)", () -> {
            CodedDeltas x = object("abcd", "abcdX");
            part(x, 20, 0, COPY, 4, 0);
            part(x, 21, 0, ADD, 1, 0);
            part(x, 1, 0, COPY, 0, 0);
            part(x, 1, 1, ADD, 1, 0);
            part(x, 2, 0, COPY, 4, 0);
            part(x, 2, 1, ADD, 0, 0);
            part(x, 3, 0, COPY, 0, 0);
            part(x, 3, 1, ADD, 0, 0);
            part(x, 4, 0, COPY, 5, 0);
            part(x, 4, 1, ADD, 1, 0);
            part(x, 5, 0, COPY, 4, 0);
            part(x, 5, 1, ADD, 2, 0);
            codes("no pair with both", x, of(20, 21), 20, 21);
        });
        edges.test(CODES, "a size of 256 is not a SIZE of 0, nor one of 255", () -> {
            CodedDeltas x = object("abcd", "");
            for (int i = 0; i < 256; i++) {
                x.feed(Rows.TARGET, 100, 1);
            }
            Rows.setText(x, Rows.SOURCE, "abcd");
            x.copy(Rows.SOURCE, 0, 4, Rows.TARGET);
            part(x, 30, 0, RUN, 0, 0);
            part(x, 31, 0, COPY, 0, 0);
            part(x, 1, 0, RUN, 0, 0);
            part(x, 1, 1, COPY, 4, 0);
            part(x, 2, 0, RUN, 255, 0);
            codes("RUN 256, COPY 4", x, of(30, 31), 30, 130, 0, 31, 4);
            x = object("abcd", "");
            for (int i = 0; i < 255; i++) {
                x.feed(Rows.TARGET, 100, 1);
            }
            part(x, 30, 0, RUN, 0, 0);
            part(x, 31, 0, RUN, 255, 0);
            codes("RUN 255", x, of(31), 31);
        });
    }

    private void singles() {
        edges.test(CODES, "else the least code with this one as its first part, with its size, and nothing as second", () -> {
            CodedDeltas x = object("", "X");
            part(x, 255, 0, ADD, 1, 0);
            codes("255 alone", x, of(255), 255);
            part(x, 8, 0, ADD, 1, 7);
            codes("8 and 255", x, of(8), 8);
            part(x, 3, 0, ADD, 1, 0);
            part(x, 3, 1, RUN, 9, 0);
            codes("3 has a second part", x, of(8), 8);
            part(x, 0, 0, ADD, 1, 0);
            codes("0 and others", x, of(0), 0);
        });
        edges.test(CODES, "with its size comes before size 0, though that be less", () -> {
            CodedDeltas x = object("", "XYZ");
            part(x, 1, 0, ADD, 0, 0);
            codes("size 0 alone", x, of(1), 1, 3);
            part(x, 200, 0, ADD, 3, 0);
            codes("its size", x, of(200), 200);
        });
        edges.test(CODES, "a code's SIZE and MODE of nothing do not count", () -> {
            CodedDeltas x = object("", "X");
            part(x, 7, 0, ADD, 1, 0);
            part(x, 7, 1, NOTHING, 44, 55);
            codes("nothing as its second one", x, of(7), 7);
        });
    }

    private void sizeless() {
        edges.test(CODES, "else the least with size 0 (and nothing as its second part)", () -> {
            CodedDeltas x = object("abcdefgh", "abcdefgh");
            part(x, 90, 0, COPY, 0, 0);
            part(x, 91, 0, COPY, 0, 0);
            part(x, 3, 0, COPY, 0, 0);
            part(x, 3, 1, ADD, 1, 0);
            part(x, 4, 0, COPY, 0, 1);
            part(x, 5, 0, COPY, 7, 0);
            part(x, 6, 0, COPY, 9, 0);
            codes("90 and 91", x, of(90), 90, 8);
            part(x, 0, 0, COPY, 0, 0);
            codes("0 and others", x, of(0), 0, 8);
        });
    }

    private void none() {
        edges.test(CODES, "If there is none: -5", () -> {
            CodedDeltas x = object("abcd", "abcd");
            refused("an empty table", x);
            part(x, 1, 0, COPY, 5, 0);
            refused("another size", x);
            part(x, 1, 0, COPY, 4, 1);
            refused("another MODE", x);
            part(x, 1, 0, RUN, 4, 0);
            refused("another kind", x);
            part(x, 1, 0, NOTHING, 0, 0);
            part(x, 1, 1, COPY, 4, 0);
            refused("as a second part alone", x);
            part(x, 1, 0, COPY, 4, 0);
            part(x, 1, 1, ADD, 1, 0);
            refused("a pair whose second one does not come", x);
            part(x, 1, 1, NOTHING, 0, 0);
            codes("it is there", x, of(1), 1);
        });
        edges.test(CODES, "If there is none for the last instruction alone: -5", () -> {
            CodedDeltas x = object("abcd", "abcdX");
            part(x, 1, 0, COPY, 4, 0);
            refused("no ADD", x);
            part(x, 2, 0, ADD, 1, 0);
            codes("ADD", x, of(1, 2), 1, 2);
        });
        edges.test("Promise 12", "-5 (see 3) changes nothing", () -> {
            CodedDeltas x = object("abcd", "abcd");
            x.write(1, 1, 50, false);
            State before = new State(x);
            refused("an empty table", x);
            edges.isTrue("nothing changed", before.isThatOf(x));
            edges.is("-2 before -5", x.write(1, 1, 49, true), -2);
            edges.is("an empty TARGET needs no code", x.cut(Rows.TARGET, 0), 4);
            edges.isTrue("written", x.write(1, 1, 50, true) > 0);
        });
    }

    private void windows() {
        edges.test(CODES, "the last instruction of a window and the first of the next are no pair", () -> {
            CodedDeltas x = new CodedDeltas();
            x.fill(Rows.TARGET, 0, 54, 3);
            x.copy(Rows.TARGET, 50, 4, Rows.SOURCE);
            Tables.part(x, 200, 0, ADD, 50, 0);
            Tables.part(x, 200, 1, COPY, 4, 0);
            edges.isTrue("written by 50", x.write(1, 1, 50, true) > 0);
            edges.is("ADD 50", x.instruction(0, 4), 1);
            edges.is("COPY 4", x.instruction(1, 4), 20);
            edges.isTrue("written by 54", x.write(1, 1, 54, true) > 0);
            edges.is("both in one window", x.instruction(0, 4), 200);
            edges.is("both in one window", x.instruction(1, 4), 200);
        });
    }

    private void ownTable() {
        edges.test(OWN_TABLE, "like the first one it is one COPY", () -> {
            CodedDeltas x = new CodedDeltas();
            int[] due = {214, 195, 196, 0, 2, 22, 4, 3, 214, 195, 196, 0, 0, 1, 140, 0, 0, 10, 140, 0, 0, 0, 3, 1,
                19, 140, 0, 0};
            edges.is("written", x.write(0, 0, 50, true), due.length);
            edges.isTrue("DELTA", Arrays.equals(Rows.get(x, Rows.DELTA), due));
        });
        edges.test(OWN_TABLE, "an empty one is one RUN; NEAR and SAME at their ends", () -> {
            int[][] caches = {{0, 0}, {8, 4}};
            for (int[] c : caches) {
                CodedDeltas x = object("", "");
                x.caches(c[0], c[1]);
                int[] due = {214, 195, 196, 0, 2, 22, c[0], c[1], 214, 195, 196, 0, 0, 1, 140, 0, 0, 10, 140, 0, 0, 1,
                    3, 0, 0, 0, 140, 0};
                edges.is("written", x.write(0, 0, 50, true), due.length);
                edges.isTrue("DELTA", Arrays.equals(Rows.get(x, Rows.DELTA), due));
                edges.is("it reads", x.read(), 0);
            }
        });
    }

    private void ownTableData() {
        edges.test(OWN_TABLE, "its data are made with the first table, one window by 1, WAY 1", () -> {
            CodedDeltas x = new CodedDeltas();
            CodedDeltas y = new CodedDeltas();
            for (int i = 0; i < 200; i++) {
                x.tableOctet(512 + 5 * i % 512, (7 * i + i * i) % 23);
            }
            // 6, 4, 5, 6 and 4, 5, .. 10 both stand in the first STRING: WAY 2 would wait for the longer one.
            int[] better = {99, 6, 4, 5, 6, 7, 8, 9, 10, 99};
            for (int i = 0; i < better.length; i++) {
                x.tableOctet(900 + i, better[i]);
            }
            x.caches(4, 4);
            for (int i = 0; i < 1536; i++) {
                y.feed(Rows.SOURCE, x.code(0, i), 1);
                y.feed(Rows.TARGET, x.code(1, i), 1);
            }
            // Whatever write() is asked for TARGET, the table is written as by WAY 1, by 1.
            for (int i = 0; i < 9; i++) {
                int size = x.write(i / 3, i % 3, 50, true);
                int head = x.octet(Rows.DELTA, 5) < 128 ? 8 : 9;
                edges.is("written", y.write(1, 1, 4000, false), size - head);
                edges.isTrue("DELTA", Arrays.equals(Rows.get(y, Rows.DELTA),
                        Arrays.copyOfRange(Rows.get(x, Rows.DELTA), head, size)));
            }
            int first = y.write(1, 1, 4000, false);
            edges.isTrue("another way makes another one", y.write(2, 1, 4000, false) != first);
            edges.isTrue("another segment makes another one", y.write(1, 0, 4000, false) != first);
            edges.isTrue("other windows make another one", y.write(1, 1, 1535, false) != first);
        });
        edges.test(OWN_TABLE, "without it the first table is used, whatever OWN TABLE is", () -> {
            CodedDeltas x = object("abcd", "abcdX");
            x.tableOctet(0, 255);
            edges.is("written", x.write(1, 1, 50, false), 5 + 9 + 1 + 1 + 1);
            edges.is("the octet behind the first four", x.octet(Rows.DELTA, 4), 0);
            edges.is("its code", x.instruction(0, 4), 247);
        });
        edges.test(OWN_TABLE, "its instructions are not told", () -> {
            CodedDeltas x = new CodedDeltas();
            x.tableOctet(600, 9);
            x.write(1, 1, 50, true);
            edges.is("an empty TARGET has none", x.instruction(0, 0), -1);
            x.feed(Rows.TARGET, 7, 1);
            x.write(1, 1, 50, true);
            edges.is("its only one", x.instruction(0, 0), ADD);
            edges.is("its window", x.instruction(0, 5), 0);
            edges.is("no more", x.instruction(1, 0), -1);
        });
    }
}
