import java.util.Arrays;

/** Boundary cases of 'Terms', 2: tables that a DELTA tells; and of promises 13, 15 and 16 for what is read. */
final class EdgesOfReading {
    private static final String READING = "Terms 2 READING";
    private static final int LEAST = Integer.MIN_VALUE;
    private static final int MOST = Integer.MAX_VALUE;
    private static final int[] NO = {};
    private static final int[] FIVE_SIX = Rows.window(2, Rows.of(5, 6), Rows.of(3), NO);

    private final Edges edges;
    private final Faults faults;

    EdgesOfReading(Edges edges) {
        this.edges = edges;
        faults = new Faults(edges);
    }

    void run() {
        tableHeads();
        tableDeltas();
        tableSizes();
        tablesNotRight();
        tablesStay();
        read();
        told();
        instructions();
        manyInstructions();
    }

    private static int[] of(int... octets) {
        return octets;
    }

    /** A DELTA with these data of a table. */
    private static int[] table(int[] data, int[]... windows) {
        return Rows.join(of(214, 195, 196, 0, 2), Rows.number(data.length), data, Rows.join(windows));
    }

    /** A table's DELTA of one window from all of the first STRING. */
    private static int[] fromFirst(int makes, int[] data, int[] codes, int[] addresses) {
        return Rows.plain(Rows.window(1, 1536, 0, Rows.tail(makes, data, codes, addresses)));
    }

    /** All of the first STRING. */
    private static int[] same() {
        return fromFirst(1536, NO, of(19, 140, 0), of(0));
    }

    /** The first STRING, but for the octet at a place, which is not its first or last. */
    private static int[] but(int place, int v) {
        int[] codes = Rows.join(of(19), Rows.number(place), of(2, 19), Rows.number(1535 - place));
        return fromFirst(1536, of(v), codes, Rows.join(of(0), Rows.number(place + 1)));
    }

    private static int[] told(int near, int same, int[] delta, int[]... windows) {
        return table(Rows.join(of(near, same), delta), windows);
    }

    private void tableHeads() {
        edges.test(READING, "18 the table's data: they have fewer than 2 octets (PLACE: that NUMBER)", () -> {
            faults.wrong("none", of(214, 195, 196, 0, 2, 0), 18, 5, 0, 0);
            faults.wrong("none, others following", of(214, 195, 196, 0, 2, 0, 4, 3), 18, 5, 0, 0);
            faults.wrong("one", of(214, 195, 196, 0, 2, 1, 4), 18, 5, 0, 0);
            faults.wrong("one, before NEAR is looked at", of(214, 195, 196, 0, 2, 1, 9), 18, 5, 0, 0);
            faults.wrong("two, and no DELTA", of(214, 195, 196, 0, 2, 2, 4, 3), 18, 8, 0, 0);
        });
        edges.test(READING, "18 NEAR is above 8 (there)", () -> {
            faults.right("8", told(8, 3, same(), FIVE_SIX), 5, 6);
            faults.wrong("9", told(9, 3, same(), FIVE_SIX), 18, 6, 0, 0);
            faults.wrong("255, and nothing more", of(214, 195, 196, 0, 2, 22, 255), 18, 6, 0, 0);
            faults.wrong("behind a longer NUMBER", Rows.join(of(214, 195, 196, 0, 2), Rows.longNumber(22, 3), of(9)), 18, 8);
        });
        edges.test(READING, "18 SAME above 4 (there)", () -> {
            faults.right("4", told(4, 4, same(), FIVE_SIX), 5, 6);
            faults.wrong("5", told(4, 5, same(), FIVE_SIX), 18, 7, 0, 0);
            faults.wrong("255, and nothing more", of(214, 195, 196, 0, 2, 22, 8, 255), 18, 7, 0, 0);
            faults.wrong("NEAR comes before it", of(214, 195, 196, 0, 2, 22, 9, 255), 18, 6, 0, 0);
        });
        edges.test(READING, "18 .. then 1, if they are not all there", () -> {
            int[] delta = told(4, 3, same());
            for (int lack = 1; lack <= same().length; lack++) {
                int n = delta.length - lack;
                faults.wrong(lack + " lack", Arrays.copyOf(delta, n), 1, n, 0, 0);
            }
            faults.wrong("1 before its DELTA's faults", of(214, 195, 196, 0, 2, 5, 4, 3, 1, 1), 1, 10, 0, 0);
            faults.wrong("with its last octet those come", of(214, 195, 196, 0, 2, 5, 4, 3, 1, 1, 1), 18, 8, 0, 0);
        });
    }

    private void wrongTable(String what, int[] delta) {
        faults.wrong(what, told(4, 3, delta, FIVE_SIX), 18, 5 + Rows.number(2 + delta.length).length + 2, 0, 0);
    }

    private void tableDeltas() {
        edges.test(READING, "18 its DELTA, which ends with them, has a fault (PLACE: where its DELTA begins)", () -> {
            wrongTable("1", Arrays.copyOf(same(), same().length - 1));
            wrongTable("1, at its beginning", NO);
            wrongTable("1, the octet behind the first four", of(214, 195, 196, 0));
            wrongTable("2", Rows.join(of(215, 195, 196, 0, 0), Arrays.copyOfRange(same(), 5, same().length)));
            wrongTable("3", Rows.join(of(214, 195, 196, 0, 1), Arrays.copyOfRange(same(), 5, same().length)));
            wrongTable("4", Rows.join(same(), of(1, 128, 128, 128, 128, 128, 0)));
            wrongTable("5", Rows.join(same(), of(3)));
            wrongTable("6", Rows.plain(Rows.window(1, 1536, 1, Rows.tail(1536, NO, of(19, 140, 0), of(0)))));
            wrongTable("7", Rows.join(same(), Rows.window(4000, of(0), Rows.join(of(0), Rows.number(4000)), NO)));
            wrongTable("8", Rows.join(same(), of(0, 4, 0, 0, 0, 0, 0)));
            wrongTable("9", Rows.join(same(), of(0, 5, 0, 1, 0, 0, 0)));
            wrongTable("11", fromFirst(1536, NO, of(19, 140, 0, 1), of(0)));
            wrongTable("12", fromFirst(1536, NO, of(19, 140, 0, 0, 0), of(0)));
            wrongTable("13", fromFirst(1536, NO, of(19, 140, 0), Rows.number(1536)));
            wrongTable("15", fromFirst(1535, NO, of(19, 140, 0), of(0)));
            wrongTable("16", fromFirst(1537, NO, of(19, 140, 0), of(0)));
            wrongTable("17", fromFirst(1536, of(0), of(19, 140, 0), of(0)));
            faults.right("none", told(4, 3, same(), FIVE_SIX), 5, 6);
        });
        edges.test(READING, "18 .. or 2 in place of 0", () -> {
            int[] rest = Arrays.copyOfRange(same(), 5, same().length);
            int[] inner = Rows.join(of(4, 3), same());
            wrongTable("2, its windows following", Rows.join(of(214, 195, 196, 0, 2), rest));
            wrongTable("2, a table following", Rows.join(of(214, 195, 196, 0, 2, inner.length), inner, rest));
        });
        edges.test(READING, "18 .. its DELTA leads from the STRING of the first table, by the first table", () -> {
            CodedDeltas x = Faults.object(told(8, 4, but(512 + 3, 3),
                    Rows.window(1, 9, 0, Rows.tail(4, of(5, 6, 7), of(3, 19, 1), of(8)))));
            x.tableOctet(512 + 19, 9);
            edges.is("OWN TABLE has no part in it", x.read(), 4);
            edges.is("its last octet", x.octet(Rows.TARGET, 3), 8);
        });
    }

    private void tableSizes() {
        edges.test(READING, "18 .. or does not make 1536 octets", () -> {
            wrongTable("none", Rows.plain());
            wrongTable("1535", fromFirst(1535, NO, Rows.join(of(19), Rows.number(1535)), of(0)));
            wrongTable("1537", fromFirst(1537, NO, Rows.join(of(19), Rows.number(1537)), of(0)));
            wrongTable("1536 and 1", Rows.join(same(), Rows.window(1, of(0), of(2), NO)));
            wrongTable("4000", fromFirst(4000, of(0), Rows.join(of(0), Rows.number(4000)), NO));
            faults.right("1536", told(4, 3, same(), FIVE_SIX), 5, 6);
            faults.right("1536 and none", told(4, 3, Rows.join(same(), Rows.window(0, NO, NO, NO)), FIVE_SIX), 5, 6);
            int[] halves = Rows.plain(Rows.window(1, 768, 0, Rows.tail(768, NO, of(19, 134, 0), of(0))),
                    Rows.window(1, 768, 768, Rows.tail(768, NO, of(19, 134, 0), of(0))));
            faults.right("768 and 768", told(4, 3, halves, FIVE_SIX), 5, 6);
        });
    }

    private void tablesNotRight() {
        edges.test(READING, "18 .. or the table is not RIGHT", () -> {
            wrongTable("a first part 4", but(3, 4));
            faults.right("a first part 3", told(4, 3, but(2, 3), FIVE_SIX), 5, 6);
            wrongTable("a second part 4", but(256 + 3, 4));
            wrongTable("a MODE 9", but(1024 + 19, 9));
            faults.right("a MODE 8", told(4, 3, but(1024 + 19, 8), FIVE_SIX), 5, 6);
            wrongTable("a second part's MODE 9", but(1280 + 163, 9));
            faults.right("a MODE 9 of ADD", told(4, 3, but(1024 + 3, 9), FIVE_SIX), 5, 6);
            faults.wrong("MODE 8, NEAR and SAME being 6", told(3, 3, same(), FIVE_SIX), 18, 8, 0, 0);
            faults.right("MODE 8, NEAR and SAME being 7", told(7, 0, same(), FIVE_SIX), 5, 6);
            faults.right("MODE 13, NEAR and SAME being 12", told(8, 4, but(1024 + 19, 13), FIVE_SIX), 5, 6);
            faults.wrong("MODE 14, NEAR and SAME being 12", told(8, 4, but(1024 + 19, 14), FIVE_SIX), 18, 8, 0, 0);
        });
    }

    private void tablesStay() {
        edges.test(READING, "a table that DELTA tells is for this reading alone", () -> {
            CodedDeltas x = Faults.object(told(4, 4, but(512 + 3, 3), Rows.window(3, of(5, 6, 7), of(3), NO)));
            edges.is("code 3 is ADD 3", x.read(), 3);
            Rows.set(x, Rows.DELTA, Rows.plain(FIVE_SIX));
            edges.is("code 3 is ADD 2 again", x.read(), 2);
            Rows.set(x, Rows.DELTA, Rows.plain(Rows.window(3, of(5, 6, 7), of(3), NO)));
            edges.is("and makes less than 3", x.read(), -26);
        });
        edges.test(READING, "OWN TABLE stays", () -> {
            CodedDeltas x = Faults.object(told(8, 0, but(512 + 3, 3), Rows.window(3, of(5, 6, 7), of(3), NO)));
            edges.is("read", x.read(), 3);
            for (int i = -1; i < 1536; i++) {
                edges.is("octet " + i, x.code(1, i), x.code(0, i));
            }
            x.write(0, 0, 50, true);
            edges.is("NEAR", x.octet(Rows.DELTA, 6), 4);
            edges.is("SAME", x.octet(Rows.DELTA, 7), 3);
        });
        edges.test(READING, "the octet 0: by the first table, whatever OWN TABLE is", () -> {
            CodedDeltas x = Faults.object(Rows.plain(FIVE_SIX));
            Tables.clear(x);
            x.caches(0, 0);
            edges.is("OWN TABLE has no code", x.read(), 2);
            edges.is("code 3 is ADD 2", x.instruction(0, 1), 2);
            x.tableOctet(0, 255);
            edges.is("OWN TABLE is not RIGHT", x.read(), 2);
            Rows.set(x, Rows.DELTA, Rows.plain(Rows.window(1, 90, 0, Rows.tail(8, NO, of(20, 148), of(70, 70)))));
            edges.is("NEAR 4, SAME 3", x.read(), 8);
            edges.is("MODE 8 is the last same one", x.instruction(1, 2), 0);
        });
        edges.test("Terms ANSWERS", "What a table's own DELTA has is no window, nor instruction, of those told", () -> {
            CodedDeltas x = faults.right("a table alone", told(4, 3, but(600, 3)));
            edges.is("windows", x.told(2), 0);
            edges.is("instructions", x.told(3), 0);
            edges.is("none is told", x.instruction(0, 0), -1);
            x = faults.right("a table and a window", told(4, 3, but(600, 3), FIVE_SIX), 5, 6);
            edges.is("windows", x.told(2), 1);
            edges.is("instructions", x.told(3), 1);
            edges.is("its window", x.instruction(0, 5), 0);
            faults.wrong("a wrong table", told(4, 3, but(3, 4), FIVE_SIX), 18, 8, 0, 0);
        });
    }

    private void read() {
        edges.test("Promise 13", "TARGET is what it makes of SOURCE: how many octets, also none", () -> {
            CodedDeltas x = Faults.object(Rows.plain());
            edges.is("TARGET before", x.length(Rows.TARGET), 2);
            edges.is("read", x.read(), 0);
            edges.is("TARGET behind", x.length(Rows.TARGET), 0);
        });
        edges.test("Promise 13", "TARGET is what it makes of SOURCE: at most 4000", () -> {
            CodedDeltas x = faults.makes("all", Rows.plain(Rows.window(4000, of(9), of(0, 159, 32), NO)), 4000);
            edges.is("the last octet", x.octet(Rows.TARGET, 3999), 9);
            edges.is("read once more", x.read(), 4000);
            edges.is("TARGET is full", x.feed(Rows.TARGET, 1, 1), -4);
        });
        edges.test("Promise 13", "-10 less a FAULT", () -> {
            edges.is("an empty DELTA", new CodedDeltas().read(), -11);
            edges.is("a wrong table", Faults.object(of(214, 195, 196, 0, 2, 0)).read(), -28);
            State before;
            CodedDeltas x = Faults.object(Rows.plain(FIVE_SIX, of(9)));
            x.read();
            before = new State(x);
            edges.is("behind a whole window", x.read(), -15);
            edges.isTrue("the same as before", before.isThatOf(x));
            edges.is("TARGET stays", x.length(Rows.TARGET), 2);
        });
    }

    private void told() {
        edges.test("Promise 15", "-2 no such what", () -> {
            for (int what : of(-1, 4, LEAST, MOST)) {
                edges.is("told(" + what + ") of a new object", new CodedDeltas().told(what), -2);
                edges.is("told(" + what + ") of a reading", faults.right("it", Rows.plain()).told(what), -2);
            }
        });
        edges.test("Promise 15", "its FAULT (0), PLACE (0)", () -> {
            CodedDeltas x = Faults.object(Rows.plain(of(9)));
            x.read();
            edges.is("FAULT", x.told(0), 5);
            edges.is("PLACE", x.told(1), 5);
            Rows.set(x, Rows.DELTA, Rows.plain(FIVE_SIX));
            x.read();
            edges.is("no FAULT", x.told(0), 0);
            edges.is("no PLACE", x.told(1), 0);
        });
        edges.test("Promise 15", "windows that were whole", () -> {
            edges.is("none", faults.right("none", Rows.plain()).told(2), 0);
            edges.is("two", faults.right("two", Rows.plain(FIVE_SIX, FIVE_SIX), 5, 6, 5, 6).told(2), 2);
            faults.wrong("one and a part", Rows.plain(FIVE_SIX, Rows.window(3, of(5, 6), of(3), NO)), 16, 25, 1, 2);
            faults.wrong("one and a begun one", Rows.plain(FIVE_SIX, of(0)), 1, 16, 1, 1);
            faults.wrong("one, DATA being left", Rows.plain(FIVE_SIX, Rows.window(0, of(5), NO, NO)), 17, 23, 1, 1);
        });
        edges.test("Promise 15", "instructions of these and those before a fault", () -> {
            faults.wrong("of both", Rows.plain(FIVE_SIX, Rows.window(3, of(5, 6), of(2, 2, 2), NO)), 12, 26, 1, 3);
            faults.wrong("of a first part too", Rows.plain(FIVE_SIX, Rows.window(5, of(5), of(163), of(1))), 13, 23, 1, 2);
            faults.wrong("none", Rows.plain(Rows.window(1, NO, of(2), NO)), 12, 12, 0, 0);
        });
        edges.test("Promise 15", "Of the latest read() or join(): write() and refused calls leave it", () -> {
            CodedDeltas x = Faults.object(Rows.plain(FIVE_SIX, of(9)));
            x.read();
            x.write(0, 0, 50, false);
            x.write(9, 0, 50, false);
            edges.is("FAULT", x.told(0), 5);
            edges.is("PLACE", x.told(1), 15);
            edges.is("windows", x.told(2), 1);
            edges.is("instructions", x.told(3), 1);
        });
        edges.test("Promise 15", "Of a new object nothing is told yet: 0", () -> {
            for (int what = 0; what < 4; what++) {
                edges.is("told(" + what + ")", new CodedDeltas().told(what), 0);
            }
        });
    }

    private void instructions() {
        edges.test("Promise 16", "-1 there is none", () -> {
            edges.is("of a new object", new CodedDeltas().instruction(0, 0), -1);
            CodedDeltas x = faults.right("two instructions", Rows.plain(FIVE_SIX, FIVE_SIX), 5, 6, 5, 6);
            for (int k : of(-1, 2, LEAST, MOST)) {
                edges.is("instruction " + k, x.instruction(k, 0), -1);
            }
            edges.is("the last", x.instruction(1, 0), 1);
            x.cut(Rows.DELTA, 5);
            x.read();
            edges.is("of none", x.instruction(0, 0), -1);
        });
        edges.test("Promise 16", "-2 no such what", () -> {
            CodedDeltas x = faults.right("one instruction", Rows.plain(FIVE_SIX), 5, 6);
            for (int what : of(-1, 6, LEAST, MOST)) {
                edges.is("what " + what, x.instruction(0, what), -2);
            }
            edges.is("what 5", x.instruction(0, 5), 0);
        });
        edges.test("Promise 16", "-1 comes before -2", () -> {
            CodedDeltas x = faults.right("one instruction", Rows.plain(FIVE_SIX), 5, 6);
            edges.is("neither", x.instruction(1, 6), -1);
            edges.is("neither", x.instruction(-1, -1), -1);
            edges.is("of a new object", new CodedDeltas().instruction(0, 6), -1);
        });
        edges.test("Promise 16", "with a FAULT those before it", () -> {
            CodedDeltas x = Faults.object(Rows.plain(FIVE_SIX, Rows.window(3, of(8), of(0, 2, 2), NO)));
            edges.is("DATA lack", x.read(), -22);
            int[][] due = {{1, 2, 0, 0, 3, 0}, {2, 2, 0, 0, 0, 1}};
            for (int i = 0; i < 12; i++) {
                edges.is("instruction(" + i / 6 + ", " + i % 6 + ")", x.instruction(i / 6, i % 6), due[i / 6][i % 6]);
            }
            edges.is("no more", x.instruction(2, 0), -1);
            Rows.set(x, Rows.DELTA, 1);
            x.read();
            edges.is("none before a FAULT at the beginning", x.instruction(0, 0), -1);
        });
        edges.test("Promise 16", "its address (of a COPY; else 0), its MODE (of a COPY; else 0)", () -> {
            CodedDeltas x = Faults.object(NO);
            Tables.plain(x, 4, 3);
            Tables.part(x, 40, 0, Tables.ADD, 1, 77);
            Tables.part(x, 40, 1, Tables.RUN, 1, 78);
            Tables.tell(x, Rows.window(1, 9, 0, Rows.tail(3, of(5, 6), of(10 + 8, 1, 40), of(255))));
            edges.is("read", x.read(), 3);
            int[][] due = {{3, 1, 0, 8, 18, 0}, {1, 1, 0, 0, 40, 0}, {2, 1, 0, 0, 40, 0}};
            for (int i = 0; i < 18; i++) {
                edges.is("instruction(" + i / 6 + ", " + i % 6 + ")", x.instruction(i / 6, i % 6), due[i / 6][i % 6]);
            }
        });
    }

    /** A DELTA of one window with so many instructions of 0 octets, by codes with two parts, but for the last. */
    private static CodedDeltas many(int instructions) {
        CodedDeltas x = new CodedDeltas();
        Tables.plain(x, 0, 0);
        Tables.part(x, 40, 0, Tables.ADD, 0, 0);
        Tables.part(x, 40, 1, Tables.ADD, 0, 0);
        int[] codes = new int[instructions / 2 * 3 + instructions % 2 * 2];
        for (int i = 0; i + 2 < codes.length; i += 3) {
            codes[i] = 40;
        }
        if (instructions % 2 == 1) {
            codes[codes.length - 2] = 1;
        }
        Tables.tell(x, Rows.window(0, NO, codes, NO));
        return x;
    }

    private void manyInstructions() {
        edges.test("Promise 16", "4000 at most are told", () -> {
            for (int n = 3999; n <= 4001; n++) {
                CodedDeltas x = many(n);
                edges.is("read", x.read(), 0);
                edges.is("how many there were", x.told(3), n);
                edges.is("instruction 3998", x.instruction(3998, 0), 1);
                edges.is("instruction 3999", x.instruction(3999, 0), n < 4000 ? -1 : 1);
                edges.is("instruction 4000", x.instruction(4000, 0), -1);
                edges.is("-1 before -2", x.instruction(4000, 6), -1);
            }
        });
    }
}
