/** Boundary cases of 'Terms', 2 THE FORM: FAULTS in the sections of a window, and behind it. */
final class EdgesOfSections {
    private static final String PART = "Terms 2 sections";
    private static final int[] NO = {};
    private static final int[] MOST = Rows.number(0x7FFFFFFFL);
    private static final int[] TOO_MUCH = Rows.number(0x80000000L);
    private static final int[] FIVE_SIX = Rows.window(2, Rows.of(5, 6), Rows.of(3), NO);
    /** Where the first code of a window without segment and without DATA stands. */
    private static final int CODE = 12;

    private final Edges edges;
    private final Faults faults;

    EdgesOfSections(Edges edges) {
        this.edges = edges;
        faults = new Faults(edges);
    }

    void run() {
        sizes();
        making();
        data();
        addresses();
        addressNumbers();
        orderOfParts();
        behindAFault();
        places();
        ends();
    }

    private static int[] of(int... octets) {
        return octets;
    }

    private static int[] plain(int makes, int[] data, int[] codes, int[] addresses) {
        return Rows.plain(Rows.window(makes, data, codes, addresses));
    }

    /** One window whose segment is nine octets of SOURCE: its first code is at 14, if it has no DATA. */
    private static int[] nine(int makes, int[] codes, int[] addresses) {
        return Rows.plain(Rows.window(1, 9, 0, Rows.tail(makes, NO, codes, addresses)));
    }

    private void sizes() {
        edges.test(PART, "11 its NUMBER lacks in CODES", () -> {
            faults.wrong("all of it", plain(0, NO, of(1), NO), 11, CODE, 0, 0);
            faults.wrong("its end", plain(0, NO, of(1, 128), NO), 11, CODE, 0, 0);
            faults.wrong("its fifth octet", plain(0, NO, of(1, 128, 128, 128, 128), NO), 11, CODE, 0, 0);
            faults.wrong("ADDRESSES are not CODES", plain(0, NO, of(1), of(0)), 11, CODE, 0, 0);
            faults.wrong("nor is the next window", Rows.plain(Rows.window(0, NO, of(1), NO), FIVE_SIX), 11, CODE, 0, 0);
            faults.wrong("of a RUN", plain(1, of(9), of(0), NO), 11, CODE + 1, 0, 0);
            faults.wrong("of a COPY", nine(1, of(19), of(0)), 11, 14, 0, 0);
        });
        edges.test(PART, "11 .. or is none", () -> {
            faults.right("0 in five octets", plain(0, NO, Rows.join(of(1), Rows.longNumber(0, 5)), NO));
            faults.wrong("0 in six octets", plain(0, NO, Rows.join(of(1), Rows.longNumber(0, 6)), NO), 11, CODE, 0, 0);
            faults.wrong("2^31", plain(0, NO, Rows.join(of(1), TOO_MUCH), NO), 11, CODE, 0, 0);
            faults.wrong("2^31 - 1 is one", plain(0, NO, Rows.join(of(1), MOST), NO), 15, CODE, 0, 0);
        });
        edges.test(PART, "11 of a second part", () -> {
            CodedDeltas x = Faults.object(NO);
            Tables.plain(x, 4, 3);
            Tables.part(x, 40, 0, Tables.ADD, 0, 0);
            Tables.part(x, 40, 1, Tables.ADD, 0, 0);
            Tables.tell(x, Rows.window(1, of(5), of(40, 1), NO));
            int window = x.length(Rows.DELTA) - 10;
            edges.is("it lacks", x.read(), -21);
            edges.is("PLACE", x.told(1), window + 8);
            edges.is("the first part is before it", x.told(3), 1);
        });
    }

    private void making() {
        edges.test(PART, "15 more would be made than n", () -> {
            faults.right("as much", plain(3, of(5, 6, 7), of(4), NO), 5, 6, 7);
            faults.wrong("one more by ADD", plain(2, of(5, 6, 7), of(4), NO), 15, CODE + 3, 0, 0);
            faults.wrong("one more by RUN", plain(2, of(5), of(0, 3), NO), 15, CODE + 1, 0, 0);
            faults.wrong("one more by COPY", nine(3, of(20), of(0)), 15, 14, 0, 0);
            faults.wrong("one where n is 0", plain(0, of(5), of(2), NO), 15, CODE + 1, 0, 0);
            faults.wrong("one more by a second code", plain(2, of(5, 6, 7), of(3, 2), NO), 15, CODE + 4, 0, 1);
            faults.right("nothing more by a second code", plain(2, of(5, 6), of(3, 1, 0), NO), 5, 6);
        });
        edges.test(PART, "15 more than n, also beyond 32 bits", () -> {
            int[] most = Rows.join(of(3, 0), MOST);
            faults.wrong("2 and 2^31 - 1", plain(3, of(5, 6, 7), most, NO), 15, CODE + 4, 0, 1);
        });
        edges.test(PART, "15 n is of this window alone", () -> {
            faults.wrong("more than the second's n", Rows.plain(FIVE_SIX, Rows.window(1, of(5, 6), of(3), NO)), 15,
                    15 + 9, 1, 1);
            faults.wrong("less than both's n", Rows.plain(Rows.window(1, of(5, 6), of(3), NO), FIVE_SIX), 15, 14, 0, 0);
        });
        edges.test(PART, "15 of a second part", () -> {
            faults.wrong("ADD 1 and COPY 4 of 4", Rows.plain(Rows.window(1, 9, 0,
                    Rows.tail(4, of(77), of(163), of(0)))), 15, 15, 0, 1);
            faults.right("ADD 1 and COPY 4 of 5", Rows.plain(Rows.window(1, 9, 0,
                    Rows.tail(5, of(77), of(163), of(0)))), 77, 0, 1, 2, 3);
        });
    }

    private void data() {
        edges.test(PART, "12 DATA lack", () -> {
            faults.wrong("one for ADD", plain(3, of(5, 6), of(4), NO), 12, CODE + 2, 0, 0);
            faults.wrong("all for ADD", plain(3, NO, of(4), NO), 12, CODE, 0, 0);
            faults.wrong("for RUN", plain(3, NO, of(0, 3), NO), 12, CODE, 0, 0);
            faults.wrong("for a second ADD", plain(3, of(5, 6), of(3, 2), NO), 12, CODE + 3, 0, 1);
            faults.right("none is wanted", plain(0, NO, of(1, 0), NO));
        });
        edges.test(PART, "12 DATA lack, also for a RUN of 0", () -> {
            faults.wrong("none is there", plain(0, NO, of(0, 0), NO), 12, CODE, 0, 0);
            faults.wrong("the first took it", plain(0, of(5), of(0, 0, 0, 0), NO), 12, CODE + 3, 0, 1);
        });
    }

    private void addresses() {
        edges.test(PART, "13 an address lacks", () -> {
            faults.wrong("by MODE 0", nine(4, of(20), NO), 13, 14, 0, 0);
            faults.wrong("by MODE 1", nine(4, of(36), NO), 13, 14, 0, 0);
            faults.wrong("by a near one", nine(4, of(52), NO), 13, 14, 0, 0);
            faults.wrong("by a same one", nine(4, of(116), NO), 13, 14, 0, 0);
            faults.wrong("its end", nine(4, of(20), of(128)), 13, 14, 0, 0);
            faults.wrong("the second", nine(8, of(20, 20), of(0)), 13, 15, 0, 1);
            faults.wrong("the next window is not of ADDRESSES", Rows.plain(Rows.window(1, 9, 0,
                    Rows.tail(4, NO, of(20), NO)), Rows.window(0, NO, NO, NO)), 13, 14, 0, 0);
        });
        edges.test(PART, "13 .. or is not 0 .. HERE - 1", () -> {
            faults.right("the first", nine(4, of(20), of(0)), 0, 1, 2, 3);
            faults.right("the last", nine(4, of(20), of(8)), 8, 8, 8, 8);
            faults.wrong("HERE", nine(4, of(20), of(9)), 13, 14, 0, 0);
            faults.right("HERE less HERE", nine(4, of(36), of(9)), 0, 1, 2, 3);
            faults.wrong("below 0", nine(4, of(36), of(10)), 13, 14, 0, 0);
            faults.wrong("HERE less 0", nine(4, of(36), of(0)), 13, 14, 0, 0);
            faults.wrong("a same one that is 0, HERE being 0", plain(4, NO, of(116), of(7)), 13, CODE, 0, 0);
        });
        edges.test(PART, "13 .. also of a COPY of 0 octets", () -> {
            faults.wrong("HERE", nine(0, of(19, 0), of(9)), 13, 14, 0, 0);
            faults.right("the last", nine(0, of(19, 0), of(8)));
            faults.wrong("0, HERE being 0", plain(0, NO, of(19, 0), of(0)), 13, CODE, 0, 0);
            faults.wrong("it lacks", nine(0, of(19, 0), NO), 13, 14, 0, 0);
        });
    }

    private void addressNumbers() {
        edges.test(PART, "13 .. (a NUMBER is none)", () -> {
            for (int code : of(20, 52)) {
                faults.right("in five octets", nine(4, of(code), Rows.longNumber(1, 5)), 1, 2, 3, 4);
                faults.wrong("in six octets", nine(4, of(code), Rows.longNumber(1, 6)), 13, 14, 0, 0);
                faults.wrong("2^31", nine(4, of(code), TOO_MUCH), 13, 14, 0, 0);
                faults.wrong("2^31 - 1 is too great", nine(4, of(code), MOST), 13, 14, 0, 0);
            }
            // As 32 bits, 2^32 + 1 would be 1.
            faults.wrong("2^32 + 1", nine(4, of(20), Rows.number((1L << 32) + 1)), 13, 14, 0, 0);
            faults.wrong("HERE less 2^32 + 1", nine(4, of(36), Rows.number((1L << 32) + 1)), 13, 14, 0, 0);
        });
        edges.test(PART, "13 an octet b may be 0 .. 255 and is no NUMBER", () -> {
            faults.right("255", nine(8, of(116, 20), of(255, 1)), 0, 1, 2, 3, 1, 2, 3, 4);
            faults.right("128", nine(8, of(148, 20), of(128, 2)), 0, 1, 2, 3, 2, 3, 4, 5);
        });
    }

    private void orderOfParts() {
        edges.test(PART, "Of a part: 11, 15, then 12 or 13", () -> {
            faults.wrong("11 before 12", plain(1, NO, of(1), NO), 11, CODE, 0, 0);
            faults.wrong("11 before 13", nine(1, of(19), NO), 11, 14, 0, 0);
            faults.wrong("15 before 12", plain(1, of(5), of(3), NO), 15, CODE + 1, 0, 0);
            faults.wrong("15 before 12, of a RUN", plain(1, NO, of(0, 2), NO), 15, CODE, 0, 0);
            faults.wrong("15 before 13", nine(1, of(20), NO), 15, 14, 0, 0);
            faults.wrong("12, n being enough", plain(2, of(5), of(3), NO), 12, CODE + 1, 0, 0);
        });
        edges.test(PART, "the first part's faults come before the second's", () -> {
            CodedDeltas x = Faults.object(NO);
            Tables.plain(x, 4, 3);
            Tables.part(x, 40, 0, Tables.ADD, 1, 0);
            Tables.part(x, 40, 1, Tables.ADD, 0, 0);
            Tables.tell(x, Rows.window(1, NO, of(40), NO));
            edges.is("12 of the first, 11 of the second", x.read(), -22);
            edges.is("no instruction", x.told(3), 0);
            Tables.tell(x, Rows.window(0, NO, of(40), NO));
            edges.is("15 of the first, 11 of the second", x.read(), -25);
        });
    }

    private void behindAFault() {
        edges.test(PART, "a second part is not looked at, if the first one has a fault", () -> {
            CodedDeltas x = Faults.object(NO);
            Tables.plain(x, 4, 3);
            Tables.part(x, 40, 0, Tables.ADD, 1, 0);
            Tables.part(x, 40, 1, Tables.COPY, 1, 0);
            Tables.tell(x, Rows.window(1, 9, 0, Rows.tail(2, NO, of(40), of(0))));
            edges.is("12 of the first", x.read(), -22);
            edges.is("no instruction", x.told(3), 0);
            edges.is("none is told", x.instruction(0, 0), -1);
        });
    }

    private void places() {
        edges.test(PART, "PLACE is where the code stands by which it happens (its octet)", () -> {
            faults.wrong("behind a code's NUMBER", plain(131, of(5, 6), of(0, 129, 0, 4), NO), 12, 18, 0, 1);
            faults.wrong("not where its NUMBER is", plain(1, of(5), of(0, 129, 0), NO), 15, CODE + 1, 0, 0);
            faults.wrong("of a second part", Rows.plain(Rows.window(1, 9, 0,
                    Rows.tail(6, of(7, 8), of(2, 163), of(10 + 1)))), 13, 17, 0, 2);
            faults.wrong("in a second window", Rows.plain(FIVE_SIX, Rows.window(3, of(5, 6), of(2, 3), NO)), 12,
                    15 + 7 + 3, 1, 2);
        });
    }

    private void ends() {
        edges.test(PART, "16 less is made than n (PLACE: behind the window)", () -> {
            int[] less = Rows.window(3, of(5, 6), of(3), NO);
            faults.wrong("one less", Rows.plain(less), 16, 15, 0, 1);
            faults.wrong("no code", plain(1, NO, NO, NO), 16, CODE, 0, 0);
            faults.wrong("another window follows", Rows.plain(less, FIVE_SIX), 16, 15, 0, 1);
            faults.wrong("the second window", Rows.plain(FIVE_SIX, less), 16, 25, 1, 2);
        });
        edges.test(PART, "17 DATA or ADDRESSES are left (PLACE: behind the window)", () -> {
            faults.wrong("DATA", plain(2, of(5, 6, 7), of(3), NO), 17, 16, 0, 1);
            faults.wrong("ADDRESSES", plain(2, of(5, 6), of(3), of(0)), 17, 16, 0, 1);
            faults.wrong("both", plain(2, of(5, 6, 7), of(3), of(0)), 17, 17, 0, 1);
            faults.wrong("DATA alone", plain(0, of(5), NO, NO), 17, 13, 0, 0);
            faults.wrong("ADDRESSES alone", plain(0, NO, NO, of(5)), 17, 13, 0, 0);
            faults.wrong("an address of which a part was taken", nine(4, of(20), of(0, 0)), 17, 17, 0, 1);
            faults.wrong("another window follows", Rows.plain(Rows.window(0, of(5), NO, NO), FIVE_SIX), 17, 13, 0, 0);
        });
        edges.test(PART, "16 comes before 17, and both before the next window", () -> {
            faults.wrong("16 before 17", plain(3, of(5, 6, 7), of(3), NO), 16, 16, 0, 1);
            faults.wrong("16 before 5", Rows.plain(Rows.window(3, of(5, 6), of(3), NO), of(9)), 16, 15, 0, 1);
            faults.wrong("17 before 5", Rows.plain(Rows.window(0, of(5), NO, NO), of(9)), 17, 13, 0, 0);
        });
    }
}
