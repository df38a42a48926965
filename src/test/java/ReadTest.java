import java.util.Arrays;

/** Promises 13 and 15, and 16 for what is read: each FAULT with its PLACE, and what is right. */
public final class ReadTest {
    private static final Due due = new Due("ReadTest");
    private static final int[] NO = {};

    private ReadTest() {
    }

    public static void main(String[] args) {
        rightOnes();
        marks();
        numbers();
        segments();
        sizes();
        codes();
        addresses();
        sameAddresses();
        windowEnds();
        tables();
        tablesThatAreWrong();
        manyInstructions();
        nothingChanges();
        tellsNothingElse();
        due.end();
    }

    /** SOURCE has the octets 0, 1, .. 99. */
    private static CodedDeltas object(int[] delta) {
        CodedDeltas x = new CodedDeltas();
        for (int i = 0; i < 100; i++) {
            x.feed(Rows.SOURCE, i, 1);
        }
        Rows.set(x, Rows.DELTA, delta);
        return x;
    }

    private static CodedDeltas right(String what, int[] delta, int... made) {
        CodedDeltas x = object(delta);
        due.is(what, x.read(), made.length);
        due.is(what + ", fault", x.told(0), 0);
        due.is(what + ", place", x.told(1), 0);
        due.isTrue(what + ", made", Arrays.equals(Rows.get(x, Rows.TARGET), made));
        return x;
    }

    private static void wrong(String what, int[] delta, int fault, int place, int windows, int instructions) {
        CodedDeltas x = object(delta);
        Rows.set(x, Rows.TARGET, 7, 7);
        due.is(what, x.read(), -10 - fault);
        due.is(what + ", fault", x.told(0), fault);
        due.is(what + ", place", x.told(1), place);
        due.is(what + ", windows", x.told(2), windows);
        due.is(what + ", instructions", x.told(3), instructions);
        due.is(what + ", last instruction", x.instruction(instructions - 1, 0) > 0 ? 1 : 0, instructions > 0 ? 1 : 0);
        due.is(what + ", no more", x.instruction(instructions, 0), -1);
        due.is(what + ", TARGET stays", x.length(Rows.TARGET), 2);
    }

    private static int[] of(int... octets) {
        return octets;
    }

    private static void rightOnes() {
        right("no window", Rows.plain());
        CodedDeltas x = right("an empty window", Rows.plain(Rows.window(0, NO, NO, NO)));
        due.is("it is whole", x.told(2), 1);
        due.is("without instruction", x.told(3), 0);
        right("ADD", Rows.plain(Rows.window(2, of(5, 6), of(3), NO)), 5, 6);
        right("ADD with a size", Rows.plain(Rows.window(2, of(5, 6), of(1, 2), NO)), 5, 6);
        right("a long number", Rows.plain(Rows.window(2, of(5, 6), of(1, 128, 128, 128, 128, 2), NO)), 5, 6);
        right("RUN", Rows.plain(Rows.window(3, of(9), of(0, 3), NO)), 9, 9, 9);
        x = right("RUN of 0, ADD of 0", Rows.plain(Rows.window(0, of(9), of(0, 0, 1, 0), NO)));
        due.is("two instructions", x.told(3), 2);
        due.is("its kind", x.instruction(0, 0), 2);
        due.is("its size", x.instruction(0, 1), 0);
        due.is("its code", x.instruction(1, 4), 1);
        right("COPY of SOURCE", Rows.plain(Rows.window(1, 10, 90, Rows.tail(4, NO, of(20), of(6)))), 96, 97, 98, 99);
        right("COPY of what it makes", Rows.plain(Rows.window(1, 2, 5, Rows.tail(6, NO, of(22), of(0)))),
                5, 6, 5, 6, 5, 6);
        x = right("two windows, the second of TARGET", Rows.plain(Rows.window(3, of(1, 2, 3), of(4), NO),
                Rows.window(2, 2, 1, Rows.tail(4, NO, of(20), of(0)))), 1, 2, 3, 2, 3, 2, 3);
        due.is("windows", x.told(2), 2);
        due.is("instructions", x.told(3), 2);
        int[] want = {3, 4, 0, 0, 20, 1};
        for (int what = 0; what < 6; what++) {
            due.is("instruction(1, " + what + ")", x.instruction(1, what), want[what]);
        }
        due.is("what 6", x.instruction(1, 6), -2);
        due.is("what -1", x.instruction(1, -1), -2);
        due.is("-1 before -2", x.instruction(2, 6), -1);
        due.is("instruction -1", x.instruction(-1, 0), -1);
        due.is("told(4)", x.told(4), -2);
        due.is("told(-1)", x.told(-1), -2);
        x = right("a code with two parts", Rows.plain(Rows.window(1, 10, 0, Rows.tail(5, of(77), of(163), of(3)))),
                77, 3, 4, 5, 6);
        due.is("both by one code", x.instruction(0, 4), 163);
        due.is("both by one code", x.instruction(1, 4), 163);
    }

    private static void marks() {
        wrong("an empty row", of(), 1, 0, 0, 0);
        wrong("the first", of(213), 2, 0, 0, 0);
        wrong("two right ones", of(214, 195), 1, 2, 0, 0);
        wrong("the second", of(214, 196), 2, 1, 0, 0);
        wrong("the third", of(214, 195, 195, 0, 0), 2, 2, 0, 0);
        wrong("the fourth", of(214, 195, 196, 1, 0), 2, 3, 0, 0);
        wrong("the fifth lacks", of(214, 195, 196, 0), 1, 4, 0, 0);
        wrong("the fifth is 1", of(214, 195, 196, 0, 1), 3, 4, 0, 0);
        wrong("the fifth is 3", of(214, 195, 196, 0, 3), 3, 4, 0, 0);
    }

    private static void numbers() {
        wrong("it lacks", Rows.plain(of(0)), 1, 6, 0, 0);
        wrong("its end lacks", Rows.plain(of(0, 128, 128)), 1, 8, 0, 0);
        wrong("four octets and no more", Rows.plain(of(0, 255, 255, 255, 255)), 1, 10, 0, 0);
        wrong("six octets", Rows.plain(of(0, 128, 128, 128, 128, 128, 5)), 4, 6, 0, 0);
        wrong("five that go on", Rows.plain(of(0, 128, 128, 128, 128, 128)), 4, 6, 0, 0);
        wrong("2^31", Rows.plain(of(0, 136, 128, 128, 128, 0)), 4, 6, 0, 0);
        wrong("2^31 - 1, then lacks", Rows.plain(of(0, 135, 255, 255, 255, 127)), 1, 11, 0, 0);
        wrong("a segment's size", Rows.plain(of(1, 143, 255, 255, 255, 127)), 4, 6, 0, 0);
        wrong("a segment's place", Rows.plain(of(1, 5, 143, 255, 255, 255, 127)), 4, 7, 0, 0);
        wrong("n", Rows.plain(of(0, 5, 143, 255, 255, 255, 127)), 4, 7, 0, 0);
        wrong("the third length", Rows.plain(of(0, 5, 0, 0, 0, 0, 143, 255, 255, 255, 127)), 4, 11, 0, 0);
    }

    private static void segments() {
        wrong("octet 3", Rows.plain(of(3, 5, 0, 0, 0, 0, 0)), 5, 5, 0, 0);
        wrong("octet 4", Rows.plain(of(4)), 5, 5, 0, 0);
        wrong("octet 255 of the second", Rows.plain(Rows.window(2, of(5, 6), of(3), NO), of(255)), 5, 15, 1, 1);
        int[] tail = Rows.tail(0, NO, NO, NO);
        right("all of SOURCE", Rows.plain(Rows.window(1, 100, 0, tail)));
        right("nothing from the end", Rows.plain(Rows.window(1, 0, 100, tail)));
        wrong("nothing from behind it", Rows.plain(Rows.window(1, 0, 101, tail)), 6, 7, 0, 0);
        wrong("one too many", Rows.plain(Rows.window(1, 10, 91, tail)), 6, 7, 0, 0);
        wrong("too many, the place lacks", Rows.plain(of(1, 120)), 1, 7, 0, 0);
        wrong("a wide sum", Rows.plain(of(1, 135, 255, 255, 255, 127, 135, 255, 255, 255, 127)), 6, 11, 0, 0);
        right("nothing of an empty TARGET", Rows.plain(Rows.window(2, 0, 0, tail)));
        wrong("one of an empty TARGET", Rows.plain(Rows.window(2, 1, 0, tail)), 6, 7, 0, 0);
        int[] before = Rows.window(2, of(5, 6), of(3), NO);
        right("all of TARGET", Rows.plain(before, Rows.window(2, 2, 0, tail)), 5, 6);
        wrong("more than TARGET", Rows.plain(before, Rows.window(2, 2, 1, tail)), 6, 17, 1, 1);
    }

    private static void sizes() {
        wrong("4001", Rows.plain(of(0, 6, 159, 33, 0, 0, 0, 0)), 7, 7, 0, 0);
        wrong("4000, not made", Rows.plain(of(0, 6, 159, 32, 0, 0, 0, 0)), 16, 13, 0, 0);
        int[] before = Rows.window(2, of(5, 6), of(3), NO);
        wrong("2 and 3999", Rows.plain(before, of(0, 6, 159, 31, 0, 0, 0, 0)), 7, 17, 1, 1);
        wrong("2 and 3998", Rows.plain(before, of(0, 6, 159, 30, 0, 0, 0, 0)), 16, 23, 1, 1);
        wrong("the 0", Rows.plain(of(0, 5, 0, 1, 0, 0, 0)), 9, 8, 0, 0);
        wrong("7 before 9", Rows.plain(of(0, 5, 159, 33, 1)), 7, 7, 0, 0);
        wrong("9 before 8", Rows.plain(of(0, 4, 0, 1, 0, 0, 0)), 9, 8, 0, 0);
        wrong("L is too small", Rows.plain(of(0, 4, 0, 0, 0, 0, 0)), 8, 6, 0, 0);
        wrong("L is too large", Rows.plain(of(0, 6, 0, 0, 0, 0, 0)), 8, 6, 0, 0);
        wrong("L, before the third length", Rows.plain(of(0, 4, 0, 0, 0, 0)), 1, 11, 0, 0);
        wrong("8 before the sections", Rows.plain(of(0, 6, 0, 0, 2, 0, 0)), 8, 6, 0, 0);
        wrong("sections lack", Rows.plain(of(0, 8, 2, 0, 2, 1, 0, 5, 6)), 1, 14, 0, 0);
        right("longer numbers count for L", Rows.plain(of(0, 128, 9, 128, 0, 0, 128, 0, 128, 0, 128, 0)));
        wrong("lengths beyond all", Rows.plain(of(0, 135, 255, 255, 255, 127, 0, 0,
                135, 255, 255, 255, 127, 135, 255, 255, 255, 127, 135, 255, 255, 255, 127)), 8, 6, 0, 0);
    }

    private static void codes() {
        wrong("a size lacks", Rows.plain(Rows.window(2, of(5, 6), of(1), NO)), 11, 14, 0, 0);
        wrong("a size has no end", Rows.plain(Rows.window(2, of(5, 6), of(1, 130), NO)), 11, 14, 0, 0);
        wrong("a size is none", Rows.plain(Rows.window(2, of(5, 6), of(1, 128, 128, 128, 128, 128, 2), NO)), 11, 14, 0, 0);
        wrong("a size of 2^31", Rows.plain(Rows.window(2, of(5, 6), of(1, 136, 128, 128, 128, 0), NO)), 11, 14, 0, 0);
        wrong("one more than n", Rows.plain(Rows.window(2, of(5, 6, 7), of(4), NO)), 15, 15, 0, 0);
        wrong("more behind the first", Rows.plain(Rows.window(2, of(5, 6, 7), of(2, 3), NO)), 15, 16, 0, 1);
        wrong("far more", Rows.plain(Rows.window(2, of(5), of(0, 135, 255, 255, 255, 127), NO)), 15, 13, 0, 0);
        wrong("DATA lack for ADD", Rows.plain(Rows.window(3, of(5, 6), of(4), NO)), 12, 14, 0, 0);
        wrong("15 before 12", Rows.plain(Rows.window(2, of(5, 6), of(4), NO)), 15, 14, 0, 0);
        wrong("DATA lack for RUN", Rows.plain(Rows.window(3, NO, of(0, 3), NO)), 12, 12, 0, 0);
        wrong("DATA lack for RUN of 0", Rows.plain(Rows.window(0, NO, of(0, 0), NO)), 12, 12, 0, 0);
        wrong("in a second part", Rows.plain(Rows.window(1, 10, 0, Rows.tail(5, of(77), of(163), of(11)))), 13, 15, 0, 1);
        wrong("more in a second part", Rows.plain(Rows.window(1, 10, 0, Rows.tail(4, of(77), of(163), of(3)))),
                15, 15, 0, 1);
        wrong("the second code", Rows.plain(Rows.window(3, of(5, 6), of(2, 3, 2), NO)), 12, 15, 0, 1);
    }

    private static void addresses() {
        int at = 14;
        wrong("it lacks", Rows.plain(Rows.window(1, 9, 0, Rows.tail(4, NO, of(20), NO))), 13, at, 0, 0);
        wrong("it has no end", Rows.plain(Rows.window(1, 9, 0, Rows.tail(4, NO, of(20), of(128)))), 13, at, 0, 0);
        wrong("it is none", Rows.plain(Rows.window(1, 9, 0, Rows.tail(4, NO, of(20), of(136, 128, 128, 128, 0)))),
                13, at, 0, 0);
        right("the last", Rows.plain(Rows.window(1, 9, 0, Rows.tail(4, NO, of(20), of(8)))), 8, 8, 8, 8);
        wrong("HERE", Rows.plain(Rows.window(1, 9, 0, Rows.tail(4, NO, of(20), of(9)))), 13, at, 0, 0);
        wrong("without any octet", Rows.plain(Rows.window(4, NO, of(20), of(0))), 13, 12, 0, 0);
        wrong("of 0 octets", Rows.plain(Rows.window(0, NO, of(19, 0), of(0))), 13, 12, 0, 0);
        right("of 0 octets", Rows.plain(Rows.window(1, 9, 0, Rows.tail(0, NO, of(19, 0), of(8)))));
        right("HERE less 9", Rows.plain(Rows.window(1, 9, 0, Rows.tail(4, NO, of(36), of(9)))), 0, 1, 2, 3);
        wrong("HERE less 10", Rows.plain(Rows.window(1, 9, 0, Rows.tail(4, NO, of(36), of(10)))), 13, at, 0, 0);
        wrong("HERE less 0", Rows.plain(Rows.window(1, 9, 0, Rows.tail(4, NO, of(36), of(0)))), 13, at, 0, 0);
        right("near ones", Rows.plain(Rows.window(1, 60, 0, Rows.tail(12, NO, of(20, 52, 68), of(20, 30, 1)))),
                20, 21, 22, 23, 50, 51, 52, 53, 51, 52, 53, 54);
        wrong("beyond by a near one", Rows.plain(Rows.window(1, 60, 0, Rows.tail(8, NO, of(20, 52), of(50, 14)))),
                13, 15, 0, 1);
        wrong("far beyond", Rows.plain(Rows.window(1, 60, 0,
                Rows.tail(8, NO, of(20, 52), of(50, 135, 255, 255, 255, 127)))), 13, 15, 0, 1);
        right("the ring turns", Rows.plain(Rows.window(1, 90, 0,
                Rows.tail(24, NO, of(20, 20, 20, 20, 20, 52), of(1, 20, 30, 40, 50, 0)))),
                1, 2, 3, 4, 20, 21, 22, 23, 30, 31, 32, 33, 40, 41, 42, 43, 50, 51, 52, 53, 50, 51, 52, 53);
    }

    private static void sameAddresses() {
        right("a same one", Rows.plain(Rows.window(1, 90, 0, Rows.tail(8, NO, of(20, 116), of(70, 70)))),
                70, 71, 72, 73, 70, 71, 72, 73);
        right("one that is 0 yet", Rows.plain(Rows.window(1, 90, 0, Rows.tail(4, NO, of(148), of(255)))), 0, 1, 2, 3);
        wrong("it lacks", Rows.plain(Rows.window(1, 90, 0, Rows.tail(4, NO, of(116), NO))), 13, 14, 0, 0);
        CodedDeltas x = new CodedDeltas();
        x.fill(Rows.SOURCE, 0, 1000, 5);
        // 600 stands at 600 modulo 768, and 999 at 231 in the first of the three.
        Rows.set(x, Rows.DELTA, Rows.plain(of(1, 135, 104, 0, 5 + 4 + 6, 16, 0, 0, 4, 6),
                of(20, 148, 20, 116), of(132, 88, 88, 135, 100, 228)));
        due.is("places in the same ones", x.read(), 16);
        due.is("third of them", x.instruction(1, 2), 600);
        due.is("its mode", x.instruction(1, 3), 8);
        due.is("first of them", x.instruction(3, 2), 996);
        due.is("as SOURCE has it", x.octet(Rows.TARGET, 12), x.octet(Rows.SOURCE, 996));
        // 768 stands at 0 of the first of the three.
        Rows.set(x, Rows.DELTA, Rows.plain(of(1, 135, 104, 0, 5 + 2 + 3, 8, 0, 0, 2, 3), of(20, 116), of(134, 0, 0)));
        due.is("the first place of the same ones", x.read(), 8);
        due.is("its address", x.instruction(1, 2), 768);
        int[] again = Rows.window(1, 90, 0, Rows.tail(4, NO, of(116), of(70)));
        right("caches begin anew", Rows.plain(Rows.window(1, 90, 0, Rows.tail(4, NO, of(20), of(70))), again),
                70, 71, 72, 73, 0, 1, 2, 3);
    }

    private static void windowEnds() {
        wrong("less than n", Rows.plain(Rows.window(3, of(5, 6), of(3), NO)), 16, 15, 0, 1);
        wrong("DATA left", Rows.plain(Rows.window(2, of(5, 6, 7), of(3), NO)), 17, 16, 0, 1);
        wrong("ADDRESSES left", Rows.plain(Rows.window(2, of(5, 6), of(3), of(0))), 17, 16, 0, 1);
        wrong("16 before 17", Rows.plain(Rows.window(3, of(5, 6, 7), of(3), NO)), 16, 16, 0, 1);
        int[] before = Rows.window(2, of(5, 6), of(3), NO);
        wrong("of the second window", Rows.plain(before, Rows.window(3, of(5, 6), of(3), NO)), 16, 25, 1, 2);
        wrong("the next window is not begun", Rows.plain(before, Rows.window(3, of(5, 6), of(3), NO), of(9)), 16, 25, 1, 2);
    }

    private static int[] withTable(int[] data, int[]... windows) {
        int[] size = data.length < 128 ? of(data.length) : of(128 + data.length / 128, data.length % 128);
        return Rows.join(of(214, 195, 196, 0, 2), size, data, Rows.join(windows));
    }

    /** A table's DELTA that copies the first one's STRING, but for the octet at a place. */
    private static int[] tableDelta(int place, int v) {
        int behind = 1536 - place - 1;
        int[] codes = {19, 128 + place / 128, place % 128, 2, 19, 128 + behind / 128, behind % 128};
        int[] addresses = {0, 128 + (place + 1) / 128, (place + 1) % 128};
        return Rows.plain(of(1, 140, 0, 0, 6 + 1 + 7 + 3, 140, 0, 0, 1, 7, 3), of(v), codes, addresses);
    }

    private static void tables() {
        int[] window = Rows.window(2, of(5, 6), of(3), NO);
        CodedDeltas x = right("the table with ADD of 3 as code 3",
                withTable(Rows.join(of(4, 3), tableDelta(512 + 3, 3)), Rows.window(3, of(5, 6, 7), of(3), NO)), 5, 6, 7);
        due.is("OWN TABLE stays", x.code(1, 512 + 3), 2);
        due.is("instructions of windows alone", x.told(3), 1);
        due.is("windows alone", x.told(2), 1);
        Rows.set(x, Rows.DELTA, Rows.plain(window));
        due.is("the table is for one reading alone", x.read(), 2);
        right("more caches", withTable(Rows.join(of(8, 4), tableDelta(512 + 3, 2)), window), 5, 6);
        right("fewer near ones, other same ones", withTable(Rows.join(of(4, 3), tableDelta(512 + 3, 2)), window), 5, 6);
        right("by near 5, same 2", withTable(Rows.join(of(5, 2), tableDelta(512 + 3, 2)),
                Rows.window(1, 90, 0, Rows.tail(8, NO, of(20, 116), of(70, 1)))), 70, 71, 72, 73, 1, 2, 3, 4);
        CodedDeltas y = right("a first part that is nothing", withTable(Rows.join(of(4, 3), tableDelta(163, 0)),
                Rows.window(1, 10, 0, Rows.tail(4, NO, of(163), of(3)))), 3, 4, 5, 6);
        due.is("one instruction", y.told(3), 1);
        right("no window behind", withTable(Rows.join(of(4, 3), tableDelta(163, 0))));
    }

    private static void tablesThatAreWrong() {
        int[] good = tableDelta(512 + 3, 2);
        wrong("its size lacks", of(214, 195, 196, 0, 2), 1, 5, 0, 0);
        wrong("its size is none", of(214, 195, 196, 0, 2, 255, 255, 255, 255, 255), 4, 5, 0, 0);
        wrong("size 1", of(214, 195, 196, 0, 2, 1, 4, 3), 18, 5, 0, 0);
        wrong("size 0", of(214, 195, 196, 0, 2, 0), 18, 5, 0, 0);
        wrong("NEAR lacks", of(214, 195, 196, 0, 2, 2), 1, 6, 0, 0);
        wrong("NEAR 9", of(214, 195, 196, 0, 2, 127, 9), 18, 6, 0, 0);
        wrong("SAME lacks", of(214, 195, 196, 0, 2, 127, 8), 1, 7, 0, 0);
        wrong("SAME 5", of(214, 195, 196, 0, 2, 127, 8, 5), 18, 7, 0, 0);
        wrong("data lack", of(214, 195, 196, 0, 2, 127, 8, 4, 1, 1), 1, 10, 0, 0);
        wrong("one octet lacks", of(214, 195, 196, 0, 2, 7, 8, 4, 214, 195, 196, 0), 1, 12, 0, 0);
        wrong("data lack by far", of(214, 195, 196, 0, 2, 135, 255, 255, 255, 127, 8, 4), 1, 12, 0, 0);
        wrong("no DELTA", withTable(of(4, 3)), 18, 8, 0, 0);
        wrong("its DELTA's first octet", withTable(of(4, 3, 213)), 18, 8, 0, 0);
        wrong("2 in place of 0", withTable(of(4, 3, 214, 195, 196, 0, 2)), 18, 8, 0, 0);
        wrong("it makes nothing", withTable(of(4, 3, 214, 195, 196, 0, 0)), 18, 8, 0, 0);
        wrong("it makes too much", withTable(Rows.join(of(4, 3), good, Rows.window(1, of(0), of(2), NO))), 18, 8, 0, 0);
        wrong("it makes too little", withTable(Rows.join(of(4, 3),
                Rows.plain(of(1, 140, 0, 0, 10, 139, 127, 0, 0, 3, 1, 19, 139, 127, 0)))), 18, 8, 0, 0);
        wrong("it ends before them", withTable(Rows.join(of(4, 3), good, of(0))), 18, 8, 0, 0);
        wrong("a part is 4", withTable(Rows.join(of(4, 3), tableDelta(3, 4))), 18, 8, 0, 0);
        wrong("a mode is too great", withTable(Rows.join(of(4, 2), good)), 18, 8, 0, 0);
        wrong("a mode is too great", withTable(Rows.join(of(4, 3), tableDelta(1024 + 19, 9))), 18, 8, 0, 0);
        wrong("a window behind a good one", withTable(Rows.join(of(4, 3), good), of(7)), 5, 8 + good.length, 0, 0);
    }

    /** A code with two parts of size 0 makes more instructions than are told. */
    private static void manyInstructions() {
        CodedDeltas x = new CodedDeltas();
        x.tableOctet(256 + 1, 1);
        x.write(0, 0, 4000, true);
        int codes = 2200;
        int sections = 3 * codes;
        int follow = 1 + 1 + 1 + 2 + 1 + sections;
        for (int v : of(0, 128 + follow / 128, follow % 128, 0, 0, 0, 128 + sections / 128, sections % 128, 0)) {
            x.feed(Rows.DELTA, v, 1);
        }
        for (int i = 0; i < codes; i++) {
            x.feed(Rows.DELTA, 0x010000, 3);
        }
        due.is("read", x.read(), 0);
        due.is("windows", x.told(2), 1);
        due.is("instructions", x.told(3), 2 * codes);
        due.is("the last that is told", x.instruction(3999, 0), 1);
        due.is("its code", x.instruction(3999, 4), 1);
        due.is("no more are told", x.instruction(4000, 0), -1);
    }

    private static void nothingChanges() {
        CodedDeltas x = object(Rows.plain(Rows.window(2, of(5, 6), of(3), NO), of(9)));
        Rows.set(x, Rows.TARGET, 1, 2, 3);
        Rows.set(x, Rows.SECOND, 4);
        int[] delta = Rows.get(x, Rows.DELTA);
        due.is("a fault", x.read(), -15);
        due.isTrue("TARGET", Arrays.equals(Rows.get(x, Rows.TARGET), of(1, 2, 3)));
        due.isTrue("DELTA", Arrays.equals(Rows.get(x, Rows.DELTA), delta));
        due.is("SECOND", x.length(Rows.SECOND), 1);
        due.is("SOURCE", x.length(Rows.SOURCE), 100);
        due.is("whole windows are told", x.told(2), 1);
        due.is("instructions are told", x.instruction(0, 1), 2);
    }

    private static void tellsNothingElse() {
        CodedDeltas x = object(Rows.plain(of(9)));
        x.read();
        due.is("fault", x.told(0), 5);
        x.write(0, 0, 4000, false);
        due.is("a write leaves what is told", x.told(0), 5);
        due.is("a write leaves what is told", x.told(1), 5);
        x.read();
        due.is("the next reading", x.told(0), 0);
    }
}
