import java.util.Arrays;

/** Boundary cases of 'Terms', JOINED, and of promise 14, with 15 and 16 for what is joined. */
final class EdgesOfJoining {
    private static final String JOINED = "Terms JOINED";
    private static final int[] NO = {};
    private static final int[] FIVE_SIX = Rows.window(2, Rows.of(5, 6), Rows.of(3), NO);
    private static final int[] ALL = Rows.window(1, 100, 0, Rows.tail(100, NO, Rows.of(19, 100), Rows.of(0)));

    private final Edges edges;

    EdgesOfJoining(Edges edges) {
        this.edges = edges;
    }

    void run() {
        copies();
        onEnd();
        origins();
        empties();
        modes();
        faults();
        rows();
        dearest();
        told();
        instructions();
    }

    private static int[] of(int... octets) {
        return octets;
    }

    private static CodedDeltas object(int[] delta, int[] second) {
        CodedDeltas x = Faults.object(delta);
        Rows.set(x, Rows.SECOND, second);
        return x;
    }

    private void joined(String what, int[] delta, int[] second, int... due) {
        CodedDeltas x = object(delta, second);
        edges.is(what, x.join(), due.length);
        int[] got = Rows.get(x, Rows.DELTA);
        edges.isTrue(what + ", DELTA " + Arrays.toString(got), Arrays.equals(got, due));
    }

    /** SECOND takes each piece (how many octets, from where) of B, which is SOURCE. */
    private static int[] pieces(int... pieces) {
        int makes = 0;
        int[] codes = {};
        int[] addresses = {};
        for (int i = 0; i < pieces.length; i += 2) {
            makes += pieces[i];
            codes = Rows.join(codes, of(19, pieces[i]));
            addresses = Rows.join(addresses, of(pieces[i + 1]));
        }
        return Rows.plain(Rows.window(1, 100, 0, Rows.tail(makes, NO, codes, addresses)));
    }

    private static int[] window(int makes, int[] data, int[] codes, int[] addresses) {
        return Rows.plain(Rows.window(1, 100, 0, Rows.tail(makes, data, codes, addresses)));
    }

    private void copies() {
        edges.test(JOINED, "octets that come from places of SOURCE one behind the other, 4 or more, are one COPY", () -> {
            joined("4", Rows.plain(ALL), pieces(4, 30), window(4, NO, of(20), of(30)));
            joined("3", Rows.plain(ALL), pieces(3, 30), window(3, of(30, 31, 32), of(4), NO));
            joined("2 and 2 that meet", Rows.plain(ALL), pieces(2, 30, 2, 32), window(4, NO, of(20), of(30)));
            joined("1 and 2 that meet", Rows.plain(ALL), pieces(1, 30, 2, 31), window(3, of(30, 31, 32), of(4), NO));
            joined("all", Rows.plain(ALL), Rows.plain(ALL), window(100, NO, of(19, 100), of(0)));
            joined("the last four", Rows.plain(ALL), pieces(4, 96), window(4, NO, of(20), of(96)));
        });
        edges.test(JOINED, "one behind the other: neither the same place again, nor one left out, nor backwards", () -> {
            joined("the same again", Rows.plain(ALL), pieces(2, 30, 2, 30), window(4, of(30, 31, 30, 31), of(5), NO));
            joined("one left out", Rows.plain(ALL), pieces(2, 30, 2, 33), window(4, of(30, 31, 33, 34), of(5), NO));
            joined("the second alone is another", Rows.plain(ALL), pieces(1, 30, 1, 99, 2, 32),
                    window(4, of(30, 99, 32, 33), of(5), NO));
            joined("the last alone is another", Rows.plain(ALL), pieces(3, 30, 1, 99), window(4, of(30, 31, 32, 99), of(5), NO));
            joined("backwards", Rows.plain(ALL), pieces(1, 33, 1, 32, 1, 31, 1, 30),
                    window(4, of(33, 32, 31, 30), of(5), NO));
            joined("3 and 4", Rows.plain(ALL), pieces(3, 30, 4, 50), window(7, of(30, 31, 32), of(169), of(50)));
        });
    }

    private void onEnd() {
        edges.test(JOINED, "others that follow one another one ADD", () -> {
            // Three of SOURCE, a RUN's and ADDed ones together.
            int[] second = Rows.plain(Rows.window(1, 100, 0, Rows.tail(9, of(8, 7, 6), of(19, 3, 0, 4, 3), of(30))));
            joined("from three sides", Rows.plain(ALL), second, window(9, of(30, 31, 32, 8, 8, 8, 8, 7, 6), of(10), NO));
        });
        edges.test(JOINED, "(RUN for none)", () -> {
            int[] second = Rows.plain(Rows.window(20, of(9), of(0, 20), NO));
            int[] nines = new int[20];
            Arrays.fill(nines, 9);
            joined("a RUN of 20", Rows.plain(ALL), second, window(20, nines, of(1, 20), NO));
        });
    }

    private void origins() {
        edges.test(JOINED, "Each octet of C comes, by copies alone, from an octet of SOURCE, or .. of DATA", () -> {
            // B has SOURCE's octets 40 .. 43 as DATA: they are no copy.
            joined("DATA of DELTA like SOURCE", Rows.plain(Rows.window(4, of(40, 41, 42, 43), of(5), NO)),
                    Rows.plain(Rows.window(1, 4, 0, Rows.tail(4, NO, of(20), of(0)))),
                    window(4, of(40, 41, 42, 43), of(5), NO));
            joined("DATA of SECOND like SOURCE", Rows.plain(ALL), Rows.plain(Rows.window(4, of(40, 41, 42, 43), of(5), NO)),
                    window(4, of(40, 41, 42, 43), of(5), NO));
        });
        edges.test(JOINED, "from an octet of DATA: it is no place of SOURCE, not one before SOURCE's first either", () -> {
            for (int from = 0; from < 2; from++) {
                int[] three = Rows.plain(Rows.window(1, 100, 0, Rows.tail(4, of(77), of(2, 19, 3), of(from))));
                joined("three from " + from, Rows.plain(ALL), three,
                        window(4, of(77, from, from + 1, from + 2), of(5), NO));
                int[] four = Rows.plain(Rows.window(1, 100, 0, Rows.tail(5, of(77), of(2, 19, 4), of(from))));
                joined("four from " + from, Rows.plain(ALL), four, window(5, of(77), of(163), of(from)));
                joined("B's three from " + from, three, Rows.plain(Rows.window(1, 4, 0, Rows.tail(4, NO, of(20), of(0)))),
                        window(4, of(77, from, from + 1, from + 2), of(5), NO));
            }
        });
        edges.test(JOINED, "by copies of what was made before, in the same window and of TARGET so far", () -> {
            // B: 10 .. 13, and the same again from the window's own; then of TARGET so far.
            int[] b = Rows.plain(Rows.window(1, 4, 10, Rows.tail(8, NO, of(20, 20), of(0, 4))),
                    Rows.window(2, 8, 0, Rows.tail(4, NO, of(20), of(4))));
            joined("B's", b, Rows.plain(Rows.window(1, 12, 0, Rows.tail(12, NO, of(28), of(0)))),
                    window(12, NO, of(20, 20, 20), of(10, 10, 10)));
            int[] c = Rows.plain(Rows.window(1, 4, 10, Rows.tail(8, NO, of(20, 20), of(0, 4))),
                    Rows.window(2, 8, 0, Rows.tail(4, NO, of(20), of(4))));
            joined("C's", Rows.plain(ALL), c, window(12, NO, of(20, 20, 20), of(10, 10, 10)));
        });
        edges.test(JOINED, "the places are SOURCE's, not the segment's", () -> {
            joined("a segment from 90 on", Rows.plain(Rows.window(1, 10, 90, Rows.tail(4, NO, of(20), of(6)))),
                    Rows.plain(Rows.window(1, 4, 0, Rows.tail(4, NO, of(20), of(0)))), window(4, NO, of(20), of(96)));
            joined("SECOND's from 90 on", Rows.plain(ALL), Rows.plain(Rows.window(1, 10, 90, Rows.tail(4, NO, of(20), of(6)))),
                    window(4, NO, of(20), of(96)));
        });
    }

    private void empties() {
        edges.test(JOINED, "for an empty C without a window", () -> {
            joined("no windows", Rows.plain(), Rows.plain(), Rows.plain());
            joined("B has octets", Rows.plain(ALL), Rows.plain(), Rows.plain());
            joined("SECOND has an empty window", Rows.plain(ALL), Rows.plain(Rows.window(0, NO, NO, NO)), Rows.plain());
        });
        edges.test(JOINED, "in one window by 1: no segment, if SOURCE has no octets", () -> {
            CodedDeltas x = new CodedDeltas();
            Rows.set(x, Rows.DELTA, Rows.plain(FIVE_SIX));
            Rows.set(x, Rows.SECOND, Rows.plain(Rows.window(1, 2, 0, Rows.tail(4, NO, of(20), of(0)))));
            int[] due = Rows.plain(Rows.window(4, of(5, 6, 5, 6), of(5), NO));
            edges.is("joined", x.join(), due.length);
            edges.isTrue("DELTA", Arrays.equals(Rows.get(x, Rows.DELTA), due));
        });
        edges.test(JOINED, "in one window, with all of SOURCE, though nothing be copied", () -> {
            joined("an ADD", Rows.plain(), Rows.plain(FIVE_SIX, FIVE_SIX), window(4, of(5, 6, 5, 6), of(5), NO));
        });
        edges.test(JOINED, "C of 4000 octets from SOURCE of 4000", () -> {
            CodedDeltas x = new CodedDeltas();
            x.fill(Rows.SOURCE, 0, 4000, 1);
            x.copy(Rows.SOURCE, 0, 4000, Rows.TARGET);
            int size = x.write(1, 1, 50, false);
            x.copy(Rows.DELTA, 0, size, Rows.SECOND);
            int[] due = Rows.plain(Rows.window(1, 4000, 0, Rows.tail(4000, NO, of(19, 159, 32), of(0))));
            edges.is("one COPY", x.join(), due.length);
            edges.isTrue("DELTA", Arrays.equals(Rows.get(x, Rows.DELTA), due));
        });
    }

    private void modes() {
        edges.test(JOINED, "What leads from SOURCE to C is written .. (MODES and CODES as for write())", () -> {
            CodedDeltas x = new CodedDeltas();
            x.fill(Rows.SOURCE, 0, 1000, 1);
            x.copy(Rows.SOURCE, 0, 1000, Rows.TARGET);
            x.write(1, 1, 4000, false);
            int[] codes = {19, 20, 19, 20, 2, 19, 20};
            int[] addresses = Rows.join(Rows.number(300), Rows.number(427), Rows.number(940));
            Rows.set(x, Rows.SECOND, Rows.plain(Rows.window(1, 1000, 0, Rows.tail(61, of(7), codes, addresses))));
            edges.isTrue("joined", x.join() > 0);
            int[][] due = {{3, 20, 300, 0, 19, 0}, {3, 20, 427, 2, 51, 0}, {1, 1, 0, 0, 2, 0}, {3, 20, 940, 1, 35, 0}};
            for (int i = 0; i < 24; i++) {
                edges.is("instruction(" + i / 6 + ", " + i % 6 + ")", x.instruction(i / 6, i % 6), due[i / 6][i % 6]);
            }
            edges.is("it reads", x.read(), 61);
            for (int i = 0; i < 20; i++) {
                edges.is("octet " + i, x.octet(Rows.TARGET, i), x.octet(Rows.SOURCE, 300 + i));
                edges.is("octet " + (20 + i), x.octet(Rows.TARGET, 20 + i), x.octet(Rows.SOURCE, 427 + i));
                edges.is("octet " + (41 + i), x.octet(Rows.TARGET, 41 + i), x.octet(Rows.SOURCE, 940 + i));
            }
        });
        edges.test(JOINED, "by the first table, whatever tables DELTA, SECOND and OWN TABLE are", () -> {
            CodedDeltas x = Faults.object(NO);
            Tables.plain(x, 0, 0);
            int[] four = Rows.window(1, 100, 0, Rows.tail(4, NO, of(10, 4), of(30)));
            Tables.tell(x, four);
            Rows.set(x, Rows.SECOND, Rows.get(x, Rows.DELTA));
            Tables.tell(x, Rows.window(1, 100, 0, Rows.tail(100, NO, of(10, 100), of(0))));
            int[] due = window(4, NO, of(20), of(30));
            edges.is("joined", x.join(), due.length);
            edges.isTrue("DELTA", Arrays.equals(Rows.get(x, Rows.DELTA), due));
        });
    }

    private void refused(String what, CodedDeltas x, int fault, int place, int windows, int instructions) {
        int[][] rows = new int[4][];
        for (int row = 0; row < 4; row++) {
            rows[row] = Rows.get(x, row);
        }
        edges.is(what, x.join(), -10 - fault);
        edges.is(what + ", FAULT", x.told(0), fault);
        edges.is(what + ", PLACE", x.told(1), place);
        edges.is(what + ", windows", x.told(2), windows);
        edges.is(what + ", instructions", x.told(3), instructions);
        edges.is(what + ", instructions that are told", State.count(x), instructions);
        for (int row = 0; row < 4; row++) {
            edges.isTrue(what + ", row " + row + " stays", Arrays.equals(Rows.get(x, row), rows[row]));
        }
    }

    private void faults() {
        int[] bad = Rows.plain(FIVE_SIX, Rows.window(3, of(8), of(2, 2), NO));
        edges.test("Promise 14", "-10 less a FAULT of DELTA", () -> {
            refused("DATA lack", object(bad, Rows.plain()), 12, 15 + 7 + 2, 1, 2);
            refused("an empty DELTA", object(NO, Rows.plain()), 1, 0, 0, 0);
            refused("both have one", object(bad, of(1)), 12, 24, 1, 2);
        });
        edges.test("Promise 14", "-10 less a FAULT .. of SECOND", () -> {
            refused("DATA lack", object(Rows.plain(ALL), bad), 12, 24, 1, 2);
            refused("an empty SECOND", object(Rows.plain(ALL), NO), 1, 0, 0, 0);
            refused("its last octet lacks", object(Rows.plain(ALL),
                    Arrays.copyOf(Rows.plain(FIVE_SIX), 14)), 1, 14, 0, 0);
            refused("a wrong table", object(Rows.plain(), of(214, 195, 196, 0, 2, 1)), 18, 5, 0, 0);
        });
        edges.test("Promise 14", "-10 less a FAULT .. of SECOND (from B)", () -> {
            int[] tail = Rows.tail(0, NO, NO, NO);
            refused("more than B has", object(Rows.plain(FIVE_SIX), Rows.plain(Rows.window(1, 3, 0, tail))), 6, 7, 0, 0);
            edges.isTrue("all that B has",
                    object(Rows.plain(FIVE_SIX), Rows.plain(Rows.window(1, 2, 0, tail))).join() > 0);
            refused("of an empty B", object(Rows.plain(), Rows.plain(Rows.window(1, 1, 0, tail))), 6, 7, 0, 0);
            edges.isTrue("of TARGET so far there is none yet",
                    object(Rows.plain(ALL), Rows.plain(Rows.window(2, 1, 0, tail))).join() == -16);
        });
    }

    private void rows() {
        edges.test("Promise 14", "(TARGET stays)", () -> {
            CodedDeltas x = object(Rows.plain(ALL), pieces(4, 30));
            int[] second = Rows.get(x, Rows.SECOND);
            edges.is("joined", x.join(), 16);
            edges.isTrue("TARGET", Arrays.equals(Rows.get(x, Rows.TARGET), of(7, 7)));
            edges.isTrue("SECOND", Arrays.equals(Rows.get(x, Rows.SECOND), second));
            edges.is("SOURCE", x.length(Rows.SOURCE), 100);
            x = object(Rows.plain(), Rows.plain());
            edges.is("an empty C", x.join(), 5);
            edges.isTrue("TARGET", Arrays.equals(Rows.get(x, Rows.TARGET), of(7, 7)));
        });
        edges.test("Promise 14", "DELTA becomes that: how many octets", () -> {
            CodedDeltas x = object(Rows.plain(ALL), pieces(4, 30));
            edges.is("joined", x.join(), 16);
            edges.is("DELTA's length", x.length(Rows.DELTA), 16);
            edges.is("none behind", x.octet(Rows.DELTA, 16), -1);
            Rows.set(x, Rows.SECOND, Rows.plain(Rows.window(1, 4, 0, Rows.tail(3, NO, of(19, 3), of(1)))));
            edges.is("joined once more", x.join(), 5 + 9 + 3 + 1);
            edges.is("it reads", x.read(), 3);
            edges.is("its first octet", x.octet(Rows.TARGET, 0), 31);
        });
    }

    /** By the first table nothing costs more than ADD 18 and COPY 4 by turns: 23 octets for 22. */
    private void dearest() {
        edges.test("Promise 14", "-4 as for write(): the dearest C of 4000 octets has room", () -> {
            CodedDeltas x = new CodedDeltas();
            x.fill(Rows.SOURCE, 0, 4000, 1);
            int[] codes = new int[3 * 182];
            int[] addresses = new int[2 * 182];
            int[] data = new int[18 * 182];
            for (int i = 0; i < 182; i++) {
                System.arraycopy(of(20, 1, 18), 0, codes, 3 * i, 3);
                System.arraycopy(Rows.number(3840 - 20 * i), 0, addresses, 2 * i, 2);
            }
            // The last ADD has 14 octets, so that there are 4000 in all.
            codes[codes.length - 1] = 14;
            for (int i = 0; i < data.length; i++) {
                data[i] = i % 251;
            }
            int[] window = Rows.window(1, 4000, 0, Rows.tail(4000, Arrays.copyOf(data, data.length - 4), codes, addresses));
            Rows.set(x, Rows.SECOND, Rows.plain(window));
            Rows.set(x, Rows.DELTA, Rows.plain(Rows.window(1, 4000, 0, Rows.tail(4000, NO, of(19, 159, 32), of(0)))));
            // An ADD of 14 has a code of its own.
            edges.is("joined", x.join(), 5 + window.length - 1);
            edges.is("it reads", x.read(), 4000);
            edges.is("instructions", x.told(3), 364);
        });
    }

    private void told() {
        edges.test("Promise 15", "of join() what is told is of SECOND", () -> {
            CodedDeltas x = object(Rows.plain(ALL, Rows.window(0, NO, NO, NO), FIVE_SIX), Rows.plain(FIVE_SIX, FIVE_SIX));
            edges.isTrue("joined", x.join() > 0);
            int[] due = {0, 0, 2, 2};
            for (int what = 0; what < 4; what++) {
                edges.is("told(" + what + ")", x.told(what), due[what]);
            }
        });
        edges.test("Promise 15", "of join() with a FAULT of DELTA what is told is of DELTA", () -> {
            CodedDeltas x = object(Rows.plain(FIVE_SIX, of(9)), Rows.plain());
            x.join();
            int[] due = {5, 15, 1, 1};
            for (int what = 0; what < 4; what++) {
                edges.is("told(" + what + ")", x.told(what), due[what]);
            }
        });
    }

    private void instructions() {
        edges.test("Promise 16", "of join() what it wrote", () -> {
            CodedDeltas x = object(Rows.plain(ALL), Rows.plain(Rows.window(1, 100, 0,
                    Rows.tail(4, NO, of(19, 1, 19, 1, 19, 2), of(30, 31, 32)))));
            edges.isTrue("joined", x.join() > 0);
            edges.is("instructions of SECOND", x.told(3), 3);
            int[] due = {3, 4, 30, 0, 20, 0};
            for (int what = 0; what < 6; what++) {
                edges.is("what " + what, x.instruction(0, what), due[what]);
            }
            edges.is("no more", x.instruction(1, 0), -1);
            Rows.set(x, Rows.SECOND, Rows.plain());
            x.join();
            edges.is("of an empty C none", x.instruction(0, 0), -1);
        });
        edges.test("Promise 16", "of join() with a FAULT those before it of the DELTA that has it", () -> {
            int[] bad = Rows.plain(Rows.window(2, of(8), of(2, 2), NO));
            CodedDeltas x = object(Rows.plain(FIVE_SIX, FIVE_SIX), bad);
            edges.is("of SECOND", x.join(), -22);
            edges.is("its only one", x.instruction(0, 1), 1);
            edges.is("no more", x.instruction(1, 0), -1);
            x = object(bad, Rows.plain(FIVE_SIX, FIVE_SIX));
            edges.is("of DELTA", x.join(), -22);
            edges.is("its only one", x.instruction(0, 1), 1);
            edges.is("no more", x.instruction(1, 0), -1);
        });
    }
}
