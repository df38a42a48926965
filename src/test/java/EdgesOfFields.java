import java.util.Arrays;

/** Boundary cases of 'Terms': NUMBER, 2 THE FORM, and READING up to the sections of a window. */
final class EdgesOfFields {
    private static final String NUMBER = "Terms NUMBER";
    private static final String FORM = "Terms 2 THE FORM";
    private static final String READING = "Terms 2 READING";
    private static final long MOST = 0x7FFFFFFFL;
    private static final int[] NO = {};
    private static final int SIZE = 1;
    private static final int FROM = 2;
    private static final int L = 3;
    private static final int N = 4;
    private static final int ZERO = 5;
    private static final int DATA = 6;
    private static final int CODES = 7;
    private static final int ADDRESSES = 8;
    private static final int[] NUMBERS = {SIZE, FROM, L, N, DATA, CODES, ADDRESSES};
    private static final int[] VALUES = {1, 10, 20, 0, 3, 0, 3, 1, 0};
    private static final int[] SECTIONS = {5, 6, 7, 4};
    private static final int[] FIVE_SIX = Rows.window(2, Rows.of(5, 6), Rows.of(3), NO);

    private final Edges edges;
    private final Faults faults;

    EdgesOfFields(Edges edges) {
        this.edges = edges;
        faults = new Faults(edges);
    }

    void run() {
        numbers();
        numbersWritten();
        form();
        parts();
        lacking();
        marks();
        segments();
        sizes();
        follows();
        order();
    }

    private static int[] of(int... octets) {
        return octets;
    }

    /** A window that makes 5, 6, 7, one field of which is replaced; L is as it should be, if it is not that. */
    private static int[] window(int field, int[] octets) {
        int[][] fields = new int[9][];
        for (int i = 0; i < 9; i++) {
            fields[i] = i == field ? octets : of(VALUES[i]);
        }
        if (field != L) {
            int follow = SECTIONS.length;
            for (int i = N; i <= ADDRESSES; i++) {
                follow += fields[i].length;
            }
            fields[L] = Rows.number(follow);
        }
        return Rows.join(Rows.join(fields), SECTIONS);
    }

    private static int[] with(int field, int[] octets) {
        return Rows.plain(window(field, octets));
    }

    private static int value(int field) {
        return field == L ? 5 + SECTIONS.length : VALUES[field];
    }

    private static int[] withTableSize(int[] size) {
        int[] table = {4, 3, 214, 195, 196, 0, 0, 1, 140, 0, 0, 10, 140, 0, 0, 0, 3, 1, 19, 140, 0, 0};
        return Rows.join(of(214, 195, 196, 0, 2), size, table);
    }

    private void numbers() {
        edges.test(NUMBER, "when read at most 5 octets", () -> {
            for (int field : NUMBERS) {
                int v = value(field);
                for (int size = 1; size <= 5; size++) {
                    faults.right("field " + field + " in " + size, with(field, Rows.longNumber(v, size)), 5, 6, 7);
                }
                faults.wrong("field " + field + " in 6", with(field, Rows.longNumber(v, 6)), 4, 5 + field);
                faults.wrong("five that go on, and no more", Rows.join(
                        Arrays.copyOf(with(field, NO), 5 + field), of(128, 128, 128, 128, 128)), 4, 5 + field);
            }
            faults.right("the table's in 5", withTableSize(Rows.longNumber(22, 5)));
            faults.wrong("the table's in 6", withTableSize(Rows.longNumber(22, 6)), 4, 5);
        });
        edges.test(NUMBER, "2^31 - 1 at most: FAULT 4", () -> {
            for (int field : NUMBERS) {
                faults.wrong("2^31 in " + field, with(field, Rows.number(MOST + 1)), 4, 5 + field);
                faults.wrong("2^32 in " + field, with(field, Rows.number(2 * MOST + 2)), 4, 5 + field);
                faults.wrong("2^35 - 1 in " + field, with(field, Rows.number((1L << 35) - 1)), 4, 5 + field);
            }
            faults.wrong("the table's 2^31", withTableSize(Rows.number(MOST + 1)), 4, 5);
        });
        edges.test(NUMBER, "2^31 - 1 is a NUMBER", () -> {
            int[] most = Rows.number(MOST);
            faults.wrong("a segment's size", with(SIZE, most), 6, 5 + FROM + 4);
            faults.wrong("a segment's place", with(FROM, most), 6, 5 + FROM);
            faults.wrong("L", with(L, most), 8, 5 + L);
            faults.wrong("n", with(N, most), 7, 5 + N);
            faults.wrong("DATA's", with(DATA, most), 8, 5 + L);
            faults.wrong("CODES'", with(CODES, most), 8, 5 + L);
            faults.wrong("ADDRESSES'", with(ADDRESSES, most), 8, 5 + L);
            faults.wrong("the table's", withTableSize(most), 1, withTableSize(most).length);
        });
        edges.test(NUMBER, "a NUMBER that ends before its last octet lacks octets: FAULT 1", () -> {
            for (int field : NUMBERS) {
                for (int n = 0; n < 5; n++) {
                    int[] begun = new int[n];
                    Arrays.fill(begun, 129);
                    int[] delta = Rows.join(Arrays.copyOf(with(field, NO), 5 + field), begun);
                    faults.wrong(n + " octets of " + field, delta, 1, delta.length);
                }
            }
        });
    }

    private int[] written(int source, int target, int way) {
        CodedDeltas x = new CodedDeltas();
        x.fill(Rows.SOURCE, 0, source, 3);
        x.fill(Rows.TARGET, 0, target, 9);
        edges.is("written", x.write(way, 1, 4000, false), x.length(Rows.DELTA));
        return Rows.get(x, Rows.DELTA);
    }

    private void octets(String what, int[] row, int at, int... due) {
        for (int i = 0; i < due.length; i++) {
            edges.is(what + ", octet " + i, at + i < row.length ? row[at + i] : -1, due[i]);
        }
    }

    private void numbersWritten() {
        String few = "as few as tell it, when written: ";
        edges.test(NUMBER, few + "n, DATA's length and a size at 127 and 128", () -> {
            octets("127", written(0, 127, 0), 5, 0, 129, 6, 127, 0, 127, 2, 0);
            octets("127, its code", written(0, 127, 0), 13 + 127, 1, 127);
            octets("128", written(0, 128, 0), 5, 0, 129, 10, 129, 0, 0, 129, 0, 3, 0);
            octets("128, its code", written(0, 128, 0), 15 + 128, 1, 129, 0);
        });
        edges.test(NUMBER, few + "L at 127 and 128", () -> {
            octets("127", written(0, 120, 0), 5, 0, 127, 120, 0);
            octets("128", written(0, 121, 0), 5, 0, 129, 0, 121, 0);
        });
        edges.test(NUMBER, few + "a segment's size at 127 and 128", () -> {
            octets("127", written(127, 1, 0), 5, 1, 127, 0, 7);
            octets("128", written(128, 1, 0), 5, 1, 129, 0, 0, 7);
            octets("4000", written(4000, 1, 0), 5, 1, 159, 32, 0, 7);
        });
        edges.test(NUMBER, few + "an address at 127 and 128", () -> {
            for (int a = 127; a <= 128; a++) {
                CodedDeltas x = new CodedDeltas();
                x.fill(Rows.SOURCE, 0, 1000, 3);
                x.copy(Rows.SOURCE, a, 10, Rows.TARGET);
                int size = x.write(1, 1, 4000, false);
                int[] due = a == 127 ? of(1, 26, 127) : of(2, 26, 129, 0);
                octets("address " + a, Rows.get(x, Rows.DELTA), size - due.length, due);
            }
        });
        edges.test(NUMBER, few + "CODES' length at 127 and 128", () -> {
            for (int codes = 127; codes <= 128; codes++) {
                CodedDeltas x = new CodedDeltas();
                for (int i = 0; i < 384; i++) {
                    x.feed(Rows.TARGET, i / 6, 1);
                }
                x.cut(Rows.TARGET, codes == 127 ? 379 : 384);
                x.write(1, 0, 4000, false);
                octets("length " + codes, Rows.get(x, Rows.DELTA), 10, codes == 127 ? of(0, 64, 127, 0) : of(0, 64, 129, 0, 0));
            }
        });
        edges.test(NUMBER, few + "how many octets OWN TABLE's data have, at 127 and 128", () -> {
            CodedDeltas x = new CodedDeltas();
            boolean one = false;
            boolean two = false;
            for (int i = 0; i < 60; i++) {
                x.tableOctet(512 + 4 * i, 100 + i);
                int size = x.write(0, 0, 50, true);
                int first = x.octet(Rows.DELTA, 5);
                int told = first < 128 ? first : 128 * (first - 128) + x.octet(Rows.DELTA, 6);
                int octets = told < 128 ? 1 : 2;
                edges.is("what is told", told, size - 5 - octets);
                one |= told >= 120 && told < 128;
                two |= told >= 128 && told < 136;
            }
            edges.isTrue("both were written", one && two);
        });
    }

    private void form() {
        edges.test(FORM, "windows, up to the end: none at all", () -> {
            CodedDeltas x = faults.right("no window", Rows.plain());
            edges.is("windows", x.told(2), 0);
        });
        edges.test(FORM, "windows, up to the end: one that makes nothing", () -> {
            CodedDeltas x = faults.right("an empty window", Rows.plain(Rows.window(0, NO, NO, NO)));
            edges.is("windows", x.told(2), 1);
            x = faults.right("between others", Rows.plain(FIVE_SIX, Rows.window(0, NO, NO, NO), FIVE_SIX), 5, 6, 5, 6);
            edges.is("windows", x.told(2), 3);
            edges.is("the window of the last", x.instruction(1, 5), 2);
        });
        edges.test(FORM, "windows, up to the end: as many as DELTA has room for", () -> {
            CodedDeltas x = Faults.object(Rows.plain());
            for (int i = 0; i < 1142; i++) {
                x.feed(Rows.DELTA, 0x00050000000000L, 7);
            }
            edges.is("read", x.read(), 0);
            edges.is("windows", x.told(2), 1142);
            edges.is("one octet more", x.feed(Rows.DELTA, 0, 1), 8000);
            edges.is("read", x.read(), -11);
            edges.is("PLACE", x.told(1), 8000);
            edges.is("windows", x.told(2), 1142);
        });
        edges.test(FORM, "1 a segment of SOURCE: all of it, its first octet, its last", () -> {
            int[] copy = Rows.tail(1, NO, of(19, 1), of(0));
            faults.right("all", Rows.plain(Rows.window(1, 100, 0, Rows.tail(1, NO, of(19, 1), of(99)))), 99);
            faults.right("the first", Rows.plain(Rows.window(1, 1, 0, copy)), 0);
            faults.right("the last", Rows.plain(Rows.window(1, 1, 99, copy)), 99);
        });
        edges.test(FORM, "2 of TARGET as it is so far", () -> {
            int[] copy = Rows.tail(1, NO, of(19, 1), of(0));
            faults.right("the first", Rows.plain(FIVE_SIX, Rows.window(2, 1, 0, copy)), 5, 6, 5);
            faults.right("the last", Rows.plain(FIVE_SIX, Rows.window(2, 1, 1, copy)), 5, 6, 6);
            faults.right("of two windows", Rows.plain(FIVE_SIX, Rows.window(1, of(9), of(2), NO),
                    Rows.window(2, 2, 1, Rows.tail(3, NO, of(19, 3), of(0)))), 5, 6, 9, 6, 9, 6);
        });
        edges.test(FORM, "RUN: one octet of DATA (also if its size is 0)", () -> {
            faults.right("RUN 0", Rows.plain(Rows.window(1, of(8, 9), of(0, 0, 2), NO)), 9);
            faults.right("RUN 1", Rows.plain(Rows.window(1, of(8), of(0, 1), NO)), 8);
        });
        edges.test(FORM, "ADD: so many octets of DATA, also none", () -> {
            CodedDeltas x = faults.right("ADD 0", Rows.plain(Rows.window(0, NO, of(1, 0), NO)));
            edges.is("one instruction", x.told(3), 1);
            edges.is("its size", x.instruction(0, 1), 0);
        });
        edges.test(FORM, "COPY: octets of U from an address on (which may be made by it)", () -> {
            faults.right("from the last on", Rows.plain(Rows.window(1, 3, 0, Rows.tail(4, NO, of(20), of(2)))), 2, 2, 2, 2);
            faults.right("through the segment's end", Rows.plain(Rows.window(1, 3, 0, Rows.tail(7, NO, of(23), of(1)))),
                    1, 2, 1, 2, 1, 2, 1);
            faults.right("without a segment", Rows.plain(Rows.window(5, of(8), of(163), of(0))), 8, 8, 8, 8, 8);
            faults.right("of 0 octets", Rows.plain(Rows.window(1, 3, 0, Rows.tail(0, NO, of(19, 0), of(2)))));
        });
    }

    private void parts() {
        edges.test(FORM, "for each of its parts but nothing, whose SIZE is 0, its size follows as a NUMBER", () -> {
            CodedDeltas x = Faults.object(NO);
            Tables.plain(x, 0, 0);
            Tables.part(x, 40, 0, Tables.ADD, 0, 0);
            Tables.part(x, 40, 1, Tables.RUN, 0, 0);
            Tables.part(x, 41, 1, Tables.ADD, 0, 0);
            Tables.part(x, 42, 0, Tables.RUN, 255, 0);
            Tables.tell(x, Rows.window(5, of(5, 6, 7, 8), of(40, 1, 3, 50, 41, 1, 40, 0, 0), NO),
                    Rows.window(255, of(9), of(42), NO));
            edges.is("both sizes, one, and none", x.read(), 260);
            int[] due = {5, 6, 6, 6, 7, 9};
            for (int i = 0; i < 6; i++) {
                edges.is("octet " + i, x.octet(Rows.TARGET, i), due[i]);
            }
            edges.is("instructions", x.told(3), 6);
            edges.is("a code whose first part is nothing", x.instruction(2, 4), 41);
            edges.is("the last one's size", x.instruction(5, 1), 255);
        });
    }

    private void lacking() {
        edges.test(READING, "1 octets lack, PLACE: how many octets there are", () -> {
            int[] first = window(0, of(1));
            int[] table = withTableSize(of(22));
            int[] delta = Rows.join(table, first, FIVE_SIX);
            for (int n = 0; n < delta.length; n++) {
                int[] begun = Arrays.copyOf(delta, n);
                int whole = n < table.length + first.length ? 0 : 1;
                if (n == table.length || n == table.length + first.length) {
                    edges.is("up to a window's end", Faults.object(begun).read(), 3 * whole);
                } else {
                    faults.wrong("up to " + n, begun, 1, n, whole, whole);
                }
            }
        });
        edges.test(READING, "1 the sections: one octet lacks, or all", () -> {
            int[] delta = Rows.plain(FIVE_SIX);
            for (int lack = 1; lack <= 3; lack++) {
                int n = delta.length - lack;
                faults.wrong(lack + " lack", Arrays.copyOf(delta, n), 1, n);
            }
            long most = MOST - 9;
            int[] far = Rows.plain(Rows.join(of(0), Rows.number(MOST), of(0, 0), Rows.number(most), of(0, 0), of(1, 2, 3)));
            faults.wrong("far too long, L being right", far, 1, far.length);
        });
    }

    private void marks() {
        edges.test(READING, "2 one of the first four", () -> {
            int[] mark = {214, 195, 196, 0};
            for (int i = 0; i < 4; i++) {
                for (int v : of(mark[i] + 1, mark[i] == 0 ? 255 : mark[i] - 1)) {
                    int[] delta = Rows.plain(FIVE_SIX);
                    delta[i] = v;
                    faults.wrong("octet " + i + " is " + v, delta, 2, i, 0, 0);
                    faults.wrong("and it is the last", Arrays.copyOf(delta, i + 1), 2, i, 0, 0);
                }
            }
        });
        edges.test(READING, "3 the octet is neither 0 nor 2", () -> {
            for (int v : of(1, 3, 128, 255)) {
                faults.wrong("it is " + v, of(214, 195, 196, 0, v), 3, 4, 0, 0);
            }
        });
        edges.test(READING, "5 the octet of a window", () -> {
            for (int v : of(3, 4, 128, 255)) {
                faults.wrong("it is " + v, Rows.plain(of(v)), 5, 5, 0, 0);
                faults.wrong("of the second, " + v, Rows.plain(FIVE_SIX, of(v), FIVE_SIX), 5, 15, 1, 1);
            }
        });
    }

    private void segments() {
        int[] tail = Rows.tail(0, NO, NO, NO);
        edges.test(READING, "6 the segment is not within SOURCE", () -> {
            faults.right("all", Rows.plain(Rows.window(1, 100, 0, tail)));
            faults.wrong("one more", Rows.plain(Rows.window(1, 101, 0, tail)), 6, 7);
            faults.right("the last", Rows.plain(Rows.window(1, 1, 99, tail)));
            faults.wrong("one behind the last", Rows.plain(Rows.window(1, 1, 100, tail)), 6, 7);
            faults.wrong("all but one, from 2 on", Rows.plain(Rows.window(1, 99, 2, tail)), 6, 7);
        });
        edges.test(READING, "6 .. or TARGET so far", () -> {
            faults.right("all", Rows.plain(FIVE_SIX, Rows.window(2, 2, 0, tail)), 5, 6);
            faults.wrong("one more", Rows.plain(FIVE_SIX, Rows.window(2, 3, 0, tail)), 6, 17, 1, 1);
            faults.wrong("from 1 on", Rows.plain(FIVE_SIX, Rows.window(2, 2, 1, tail)), 6, 17, 1, 1);
            faults.wrong("of none so far, TARGET having two", Rows.plain(Rows.window(2, 1, 0, tail)), 6, 7, 0, 0);
        });
        edges.test(READING, "6 .. at the second NUMBER, where 0 octets are right from any place, the end too", () -> {
            faults.right("SOURCE's beginning", Rows.plain(Rows.window(1, 0, 0, tail)));
            faults.right("SOURCE's end", Rows.plain(Rows.window(1, 0, 100, tail)));
            faults.wrong("behind SOURCE's end", Rows.plain(Rows.window(1, 0, 101, tail)), 6, 7);
            faults.right("the end of no TARGET", Rows.plain(Rows.window(2, 0, 0, tail)));
            faults.wrong("behind the end of no TARGET", Rows.plain(Rows.window(2, 0, 1, tail)), 6, 7);
            faults.right("TARGET's end", Rows.plain(FIVE_SIX, Rows.window(2, 0, 2, tail)), 5, 6);
            faults.wrong("behind TARGET's end", Rows.plain(FIVE_SIX, Rows.window(2, 0, 3, tail)), 6, 17);
            faults.wrong("PLACE behind a longer NUMBER", Rows.plain(Rows.window(1, 128, 0, tail)), 6, 8);
        });
        edges.test(READING, "6 also where both NUMBERS together are beyond 32 bits", () -> {
            int[] most = Rows.number(MOST);
            faults.wrong("both the most", Rows.plain(of(1), most, most), 6, 11);
            faults.wrong("the most from 1 on", Rows.plain(of(1), most, of(1)), 6, 11);
            faults.wrong("1 from the most on", Rows.plain(of(1, 1), most), 6, 7);
        });
    }

    private void sizes() {
        edges.test(READING, "7 n: TARGET would have more than 4000", () -> {
            faults.makes("4000", Rows.plain(Rows.window(4000, of(9), of(0, 159, 32), NO)), 4000);
            faults.wrong("4001", Rows.plain(Rows.window(4001, of(9), of(0, 159, 33), NO)), 7, 7, 0, 0);
            int[] most = Rows.window(3999, of(9), of(0, 159, 31), NO);
            faults.makes("3999 and 1", Rows.plain(most, Rows.window(1, of(8), of(2), NO)), 4000);
            faults.wrong("3999 and 2", Rows.plain(most, FIVE_SIX), 7, 5 + most.length + 2, 1, 1);
            int[] all = Rows.window(4000, of(9), of(0, 159, 32), NO);
            faults.makes("4000 and 0", Rows.plain(all, Rows.window(0, NO, NO, NO)), 4000);
            faults.wrong("4000 and 1", Rows.plain(all, Rows.window(1, of(8), of(2), NO)), 7, 5 + all.length + 2, 1, 1);
            faults.wrong("1 and 2^31 - 1", Rows.plain(FIVE_SIX, Rows.join(of(0, 9), Rows.number(MOST))), 7, 17, 1, 1);
        });
        edges.test(READING, "9 the 0", () -> {
            for (int v : of(1, 2, 128, 255)) {
                faults.wrong("it is " + v, with(ZERO, of(v)), 9, 5 + ZERO, 0, 0);
            }
        });
    }

    private void follows() {
        edges.test(READING, "8 L is not what follows (PLACE: L)", () -> {
            int right = value(L);
            faults.wrong("one less", with(L, of(right - 1)), 8, 5 + L, 0, 0);
            faults.wrong("one more", with(L, of(right + 1)), 8, 5 + L, 0, 0);
            faults.wrong("0", with(L, of(0)), 8, 5 + L, 0, 0);
            faults.wrong("one more, another window following", Rows.plain(window(L, of(right + 1)), FIVE_SIX), 8, 5 + L);
            faults.wrong("of the second", Rows.plain(FIVE_SIX, window(L, of(right - 1))), 8, 15 + L, 1, 1);
        });
        edges.test(READING, "8 L counts n's NUMBER, the 0, the lengths, the sections, each as long as it is", () -> {
            int[] lengths = Rows.join(Rows.longNumber(2, 4), of(0), Rows.longNumber(2, 3), Rows.longNumber(1, 2),
                    Rows.longNumber(0, 5));
            int[] sections = {5, 6, 3};
            faults.right("18", Rows.plain(of(0, 18), lengths, sections), 5, 6);
            faults.wrong("17", Rows.plain(of(0, 17), lengths, sections), 8, 6);
            faults.wrong("L's own octets do not count", Rows.plain(of(0, 19), lengths, sections), 8, 6);
        });
        edges.test(READING, "8 also where the lengths together are beyond 32 bits", () -> {
            // They come to 2^32 and 3 more: as 32 bits they would be what L tells.
            int[] most = Rows.number(MOST);
            int[] lengths = Rows.join(of(2, 0), most, most, of(5));
            faults.wrong("2^32 more", Rows.plain(of(0, lengths.length + 3), lengths, of(5, 6, 3)), 8, 6);
            int[] long2 = Rows.join(of(2, 0), most, of(1, 0));
            faults.wrong("beyond 31 bits", Rows.plain(of(0), most, long2, of(5, 6, 3)), 8, 6);
        });
    }

    /** Each row has two faults; the one is told that is seen as soon as what it hangs on is read. */
    private void order() {
        String asSoon = "FAULTS, as it goes on, each as soon as what it hangs on is read: ";
        edges.test(READING, asSoon + "2, 3 and 5 before what lacks behind them", () -> {
            faults.wrong("2", of(214, 0), 2, 1);
            faults.wrong("3", of(214, 195, 196, 0, 9), 3, 4);
            faults.wrong("2 before 3", of(214, 195, 196, 1, 9), 2, 3);
            faults.wrong("5", Rows.plain(of(9)), 5, 5);
            faults.wrong("5 before 4", Rows.plain(of(9), Rows.number(MOST + 1)), 5, 5);
        });
        edges.test(READING, asSoon + "6 behind both NUMBERS, and before L", () -> {
            faults.wrong("too many, and the place lacks", Rows.plain(of(1, 120)), 1, 7);
            faults.wrong("too many, and the place is none", Rows.plain(of(1, 120), Rows.number(MOST + 1)), 4, 7);
            faults.wrong("L lacks", Rows.plain(of(1, 120, 0)), 6, 7);
            faults.wrong("L is none", Rows.plain(of(1, 120, 0), Rows.number(MOST + 1)), 6, 7);
        });
        edges.test(READING, asSoon + "7 before the 0, 9 before the lengths", () -> {
            faults.wrong("7, the 0 lacks", Rows.plain(of(0, 9, 159, 33)), 7, 7);
            faults.wrong("7 before 9", Rows.plain(of(0, 9, 159, 33, 1)), 7, 7);
            faults.wrong("9, the lengths lack", Rows.plain(of(0, 9, 2, 1)), 9, 8);
            faults.wrong("9 before 4", Rows.plain(of(0, 9, 2, 1), Rows.number(MOST + 1)), 9, 8);
        });
        edges.test(READING, asSoon + "8 behind the third length, and before the sections", () -> {
            faults.wrong("L is too small for n's NUMBER", Rows.plain(of(0, 0, 2, 0, 2, 1)), 1, 11);
            faults.wrong("the third is none", Rows.plain(of(0, 0, 2, 0, 2, 1), Rows.number(MOST + 1)), 4, 11);
            faults.wrong("the sections lack", Rows.plain(of(0, 7, 2, 0, 2, 1, 0)), 8, 6);
            faults.wrong("L is right, the sections lack", Rows.plain(of(0, 8, 2, 0, 2, 1, 0)), 1, 12);
            faults.wrong("8 before what is wrong in them", Rows.plain(of(0, 9, 2, 0, 2, 1, 0, 5, 6, 1)), 8, 6);
        });
        edges.test(READING, asSoon + "1 the sections, before what is wrong in them", () -> {
            int[] delta = Rows.plain(Rows.window(2, of(5, 6, 7), of(4), of(1)));
            faults.wrong("whole", delta, 15, 15);
            faults.wrong("the last octet lacks", Arrays.copyOf(delta, delta.length - 1), 1, delta.length - 1);
        });
    }
}
