import java.util.Arrays;

/** Boundary cases of 'Terms', 3 WRITING (windows, SEGMENTS, WAYS, MODES), and of promise 12. */
final class EdgesOfWriting {
    private static final String SEGMENTS = "Terms 3 SEGMENTS";
    private static final String WAYS = "Terms 3 WAYS";
    private static final String MODES = "Terms 3 MODES";
    private static final int ADD = 1;
    private static final int RUN = 2;
    private static final int COPY = 3;

    private final Edges edges;

    EdgesOfWriting(Edges edges) {
        this.edges = edges;
    }

    void run() {
        windows();
        segments();
        runs();
        matches();
        leastAddresses();
        secondWay();
        adds();
        farModes();
        nearModes();
        sameModes();
        ownModes();
        modesByWindow();
        write();
        again();
        room();
    }

    private static int[] of(int... octets) {
        return octets;
    }

    private static CodedDeltas object(String source, String target) {
        CodedDeltas x = new CodedDeltas();
        Rows.setText(x, Rows.SOURCE, source);
        Rows.setText(x, Rows.TARGET, target);
        return x;
    }

    /** These are all instructions: of each its kind, its size and, of a COPY, its address. */
    private void steps(String what, CodedDeltas x, int[]... due) {
        for (int k = 0; k < due.length; k++) {
            for (int i = 0; i < due[k].length; i++) {
                edges.is(what + ", instruction(" + k + ", " + i + ")", x.instruction(k, i), due[k][i]);
            }
        }
        edges.is(what + ", instructions", State.count(x), due.length);
    }

    private void written(String what, String source, String target, int way, int[]... due) {
        CodedDeltas x = object(source, target);
        edges.isTrue(what, x.write(way, 1, 4000, false) > 0);
        steps(what, x, due);
    }

    private void windowsOf(int target, int window, int... sizes) {
        CodedDeltas x = new CodedDeltas();
        x.fill(Rows.TARGET, 0, target, 7);
        x.write(0, 0, window, false);
        String what = target + " by " + window;
        for (int k = 0; k < sizes.length; k++) {
            edges.is(what + ", size of " + k, x.instruction(k, 1), sizes[k]);
            edges.is(what + ", window of " + k, x.instruction(k, 5), k);
        }
        edges.is(what + ", no more", x.instruction(sizes.length, 0), -1);
        edges.is(what + ", it reads", x.read(), target);
        edges.is(what + ", windows", x.told(2), sizes.length);
    }

    private void windows() {
        edges.test(SEGMENTS, "windows of W octets of TARGET (the last one with what is left)", () -> {
            windowsOf(49, 50, 49);
            windowsOf(50, 50, 50);
            windowsOf(51, 50, 50, 1);
            windowsOf(100, 50, 50, 50);
            windowsOf(149, 50, 50, 50, 49);
            windowsOf(4000, 4000, 4000);
            windowsOf(4000, 3999, 3999, 1);
            windowsOf(1, 4000, 1);
        });
        edges.test(SEGMENTS, "none for an empty TARGET", () -> {
            for (int i = 0; i < 9; i++) {
                CodedDeltas x = object("abcdefgh", "");
                edges.is("written", x.write(i / 3, i % 3, 50, false), 5);
                edges.is("its last octet", x.octet(Rows.DELTA, 4), 0);
                edges.is("no instruction", x.instruction(0, 0), -1);
                edges.is("it reads", x.read(), 0);
                edges.is("no window", x.told(2), 0);
            }
        });
    }

    private void segments() {
        String fifty = "0123456789abcdefghijklmnopqrstuvwxyzABCDEFGHIJKLMN";
        edges.test(SEGMENTS, "by 0 none", () -> {
            CodedDeltas x = object(fifty, fifty + fifty);
            x.write(1, 0, 50, false);
            edges.is("the first window", x.octet(Rows.DELTA, 5), 0);
            steps("all is new in each", x, of(ADD, 50), of(ADD, 50));
        });
        edges.test(SEGMENTS, "by 1 all of SOURCE", () -> {
            CodedDeltas x = object(fifty, fifty + fifty);
            x.write(1, 1, 50, false);
            int[] due = {1, 50, 0, 8, 50, 0, 0, 2, 1, 19, 50, 0};
            for (int i = 0; i < 24; i++) {
                edges.is("octet " + (5 + i), x.octet(Rows.DELTA, 5 + i), due[i % 12]);
            }
        });
        edges.test(SEGMENTS, "by 2 all of TARGET before the window", () -> {
            CodedDeltas x = object("", fifty + fifty + fifty);
            x.write(1, 2, 50, false);
            edges.is("the first: none", x.octet(Rows.DELTA, 5), 0);
            int second = 5 + 7 + 50 + 2;
            int[] due = {2, 50, 0, 8, 50, 0, 0, 2, 1, 19, 50, 0, 2, 100, 0, 8};
            for (int i = 0; i < due.length; i++) {
                edges.is("octet " + (second + i), x.octet(Rows.DELTA, second + i), due[i]);
            }
        });
        edges.test(SEGMENTS, "none, if that has no octets", () -> {
            for (int by = 1; by <= 2; by++) {
                CodedDeltas x = object("", "ab");
                edges.is("written", x.write(1, by, 50, false), 5 + 7 + 3);
                edges.is("no segment", x.octet(Rows.DELTA, 5), 0);
                edges.is("L behind it", x.octet(Rows.DELTA, 6), 8);
            }
            CodedDeltas x = object("x", "ab");
            x.write(1, 1, 50, false);
            edges.is("one octet is a segment", x.octet(Rows.DELTA, 5), 1);
        });
    }

    private void runs() {
        edges.test(WAYS, "WAY 1: if r is 6 or more .. RUN", () -> {
            written("6", "", "aaaaaa", 1, of(RUN, 6));
            written("5", "", "aaaaa", 1, of(ADD, 1), of(COPY, 4, 0));
            written("7 behind another", "", "baaaaaaa", 1, of(ADD, 1), of(RUN, 7));
        });
        edges.test(WAYS, "WAY 1: .. and not less than m: RUN", () -> {
            written("r is m", "aaaaaa", "aaaaaa", 1, of(RUN, 6));
            written("m is 1 more", "aaaaaab", "aaaaaab", 1, of(COPY, 7, 0));
            written("m is 1 less", "aaaaab", "aaaaaa", 1, of(RUN, 6));
        });
        edges.test(WAYS, "r is how often its octet stands there on end (in the window)", () -> {
            CodedDeltas x = new CodedDeltas();
            Rows.set(x, Rows.TARGET, new int[56]);
            x.write(1, 0, 50, false);
            steps("50 and 6", x, of(RUN, 50, 0, 0, 0, 0), of(RUN, 6, 0, 0, 0, 1));
            x.cut(Rows.TARGET, 55);
            x.write(1, 0, 50, false);
            steps("50 and 5", x, of(RUN, 50), of(ADD, 1), of(COPY, 4, 0));
        });
        edges.test(WAYS, "WAY 0: all is ADDed", () -> {
            written("a run", "aaaaaaaa", "aaaaaaaa", 0, of(ADD, 8));
            written("a match", "abcdefgh", "abcdefgh", 0, of(ADD, 8));
            written("one octet", "a", "a", 0, of(ADD, 1));
        });
    }

    private void matches() {
        edges.test(WAYS, "WAY 1: else, if m is 4 or more: COPY; else the octet is ADDed", () -> {
            written("4", "abcd", "abcd", 1, of(COPY, 4, 0));
            written("3", "abc", "abc", 1, of(ADD, 3));
            written("3, then others", "abcd", "abcx", 1, of(ADD, 4));
            written("no SOURCE", "", "abcd", 1, of(ADD, 4));
            written("one octet", "a", "a", 1, of(ADD, 1));
        });
        edges.test(WAYS, "octets of U from an address on, that is before the place", () -> {
            written("the one before it", "", "abbbbb", 1, of(ADD, 2), of(COPY, 4, 1));
            written("two before it", "", "abababc", 1, of(ADD, 2), of(COPY, 4, 0), of(ADD, 1));
            written("the place itself is none", "", "abcde", 1, of(ADD, 5));
            written("SOURCE's only octet", "a", "aaaaab", 1, of(COPY, 5, 0), of(ADD, 1));
            written("SOURCE's last octet", "xyza", "aaaaa", 1, of(COPY, 5, 3));
        });
        edges.test(WAYS, "the longest match may go from the segment on into the window", () -> {
            written("all of it repeats", "abc", "abcabcabc", 1, of(COPY, 9, 0));
            written("begun in SOURCE", "..ab", "cdZabcd", 1, of(ADD, 3), of(COPY, 4, 2));
            written("begun at SOURCE's last", "...a", "bcdZabcd", 1, of(ADD, 4), of(COPY, 4, 3));
        });
        edges.test(WAYS, "like those from the place on (in the window)", () -> {
            CodedDeltas x = new CodedDeltas();
            x.fill(Rows.SOURCE, 0, 120, 3);
            x.copy(Rows.SOURCE, 0, 120, Rows.TARGET);
            x.write(1, 1, 100, false);
            steps("100 and 20", x, of(COPY, 100, 0, 0, 19, 0), of(COPY, 20, 100, 0, 19, 1));
            x.cut(Rows.TARGET, 104);
            x.write(1, 1, 100, false);
            steps("100 and 4", x, of(COPY, 100, 0), of(COPY, 4, 100));
            x.cut(Rows.TARGET, 103);
            x.write(1, 1, 100, false);
            steps("100 and 3", x, of(COPY, 100, 0), of(ADD, 3));
            CodedDeltas y = object("abcd", "0123456789ABCDEFGHIJKLMNOPQRSTUVWXYZefghijklmnoabcd");
            y.write(1, 1, 50, false);
            steps("three at a window's end", y, of(ADD, 50), of(ADD, 1));
            y.write(1, 1, 51, false);
            steps("four at a window's end", y, of(ADD, 47), of(COPY, 4, 0));
        });
    }

    private void leastAddresses() {
        edges.test(WAYS, "of the same length the least address", () -> {
            written("in SOURCE", "-abcd-abcd-", "abcd", 1, of(COPY, 4, 1));
            written("SOURCE before the window", "abcd-", "abcdXabcd", 1, of(COPY, 4, 0), of(ADD, 1), of(COPY, 4, 0));
            written("in the window", "", "abcdXabcdYabcd", 1, of(ADD, 5), of(COPY, 4, 0), of(ADD, 1), of(COPY, 4, 0));
            CodedDeltas x = object("", "abcdXabcdYabcd");
            x.write(1, 2, 50, false);
            steps("by TARGET", x, of(ADD, 5), of(COPY, 4, 0), of(ADD, 1), of(COPY, 4, 0));
        });
        edges.test(WAYS, "m the longest match, also at a greater address", () -> {
            written("5 behind 4", "-abcd-abcde-abcd", "abcde", 1, of(COPY, 5, 6));
            written("5 before 4", "-abcde-abcd-", "abcde", 1, of(COPY, 5, 1));
            written("in the window", "abcd-", "abcdeXabcde", 1, of(COPY, 4, 0), of(ADD, 2), of(COPY, 5, 5));
        });
        edges.test(WAYS, "by 2 the segment's octets and the window's are one U", () -> {
            String text = "0123456789abcdefghijklmnopqrstuvwxyzABCDEFGHIJKLwx";
            CodedDeltas x = object("", text + "yzwxyz");
            x.write(1, 2, 50, false);
            // wxyz stands at 32 and at 48, where it goes from the segment on into the window.
            steps("from the least address", x, of(ADD, 50), of(ADD, 2), of(COPY, 4, 32));
            x = object("", text + "!?wx!?");
            x.write(1, 2, 50, false);
            steps("over the segment's end", x, of(ADD, 50), of(ADD, 2), of(COPY, 4, 48));
        });
    }

    private void secondWay() {
        edges.test(WAYS, "WAY 2: .. the next place has an m that is greater by 2 or more, the octet is ADDed", () -> {
            written("by 2", "1abcd2bcdefg3", "abcdefg", 2, of(ADD, 1), of(COPY, 6, 6));
            written("by 3", "1abcd2bcdefgh3", "abcdefgh", 2, of(ADD, 1), of(COPY, 7, 6));
            written("by 1", "1abcd2bcdef3", "abcdef", 2, of(COPY, 4, 1), of(ADD, 2));
            written("by less", "1abcd2", "abcd", 2, of(COPY, 4, 1));
            written("by 2, in WAY 1", "1abcd2bcdefg3", "abcdefg", 1, of(COPY, 4, 1), of(ADD, 3));
        });
        edges.test(WAYS, "WAY 2: at the next place all begins anew", () -> {
            written("twice by 2", "1abcd2bcdefg3cdefghij4", "abcdefghij", 2, of(ADD, 2), of(COPY, 8, 13));
            written("by 2, then by 1", "1abcd2bcdefg3cdefghi4", "abcdefghi", 2, of(ADD, 1), of(COPY, 6, 6), of(ADD, 2));
        });
        edges.test(WAYS, "WAY 2: where a COPY comes of it: a RUN is not put off", () -> {
            written("RUN", "aaaaabcdefgh", "aaaaaabcdefgh", 2, of(RUN, 6), of(COPY, 7, 5));
            written("before a RUN", "xaaa.aaaaaa.", "xaaaaaaaa", 2, of(ADD, 1), of(RUN, 8));
            written("before a RUN, in WAY 1", "xaaa.aaaaaa.", "xaaaaaaaa", 1, of(COPY, 4, 0), of(COPY, 5, 5));
        });
        edges.test(WAYS, "WAY 2: likewise: r 6 and 5, m 4 and 3", () -> {
            written("r 6", "", "aaaaaa", 2, of(RUN, 6));
            written("r 5", "", "aaaaa", 2, of(ADD, 1), of(COPY, 4, 0));
            written("m 4", "abcd", "abcd", 2, of(COPY, 4, 0));
            written("m 3", "abc", "abc", 2, of(ADD, 3));
        });
        edges.test(WAYS, "WAY 2: the next place's m is in the window too", () -> {
            String before = "0123456789ABCDEFGHIJKLMNOPQRSTUVWXYZ!?&%$#@()=";
            CodedDeltas x = object("1abcd2bcdefg3", before + "abcdefg");
            x.write(2, 1, before.length() + 7, false);
            steps("6", x, of(ADD, before.length() + 1), of(COPY, 6, 6));
            x.write(2, 1, before.length() + 6, false);
            steps("5, one being beyond it", x, of(ADD, before.length()), of(COPY, 4, 1), of(ADD, 2), of(ADD, 1));
        });
    }

    private void adds() {
        edges.test(WAYS, "Octets that are ADDed one behind the other are one ADD", () -> {
            written("around a COPY", "abcd", "123abcd45", 1, of(ADD, 3), of(COPY, 4, 0), of(ADD, 2));
            written("around a RUN", "", "12aaaaaa3", 1, of(ADD, 2), of(RUN, 6), of(ADD, 1));
            written("none between two COPYs", "abcd-efgh", "efghabcd", 1, of(COPY, 4, 5), of(COPY, 4, 0));
            CodedDeltas x = new CodedDeltas();
            x.fill(Rows.TARGET, 0, 100, 7);
            x.write(1, 0, 50, false);
            steps("each window has its own", x, of(ADD, 50), of(ADD, 50));
        });
    }

    /** TARGET is 20 octets of SOURCE (of so many) from each place, with three others behind each. */
    private void modesOf(String what, int sourceSize, int[] places, int... due) {
        modesOf(what, new CodedDeltas(), sourceSize, places, due);
    }

    /** Likewise, with a plain OWN TABLE. */
    private void ownModesOf(int near, int same, int[] places, int... due) {
        CodedDeltas x = new CodedDeltas();
        Tables.plain(x, near, same);
        modesOf("NEAR " + near + ", SAME " + same, x, 3000, places, due);
    }

    private void modesOf(String what, CodedDeltas x, int sourceSize, int[] places, int... due) {
        x.fill(Rows.SOURCE, 0, sourceSize, 3);
        for (int i = 0; i < places.length; i++) {
            x.copy(Rows.SOURCE, places[i], 20, Rows.TARGET);
            x.fill(Rows.TARGET, 0, 3, 7919 * (i + 1));
        }
        // Where OWN TABLE is the first one, telling it changes no MODE.
        x.write(1, 1, 4000, true);
        for (int i = 0; i < places.length; i++) {
            edges.is(what + ", address of " + i, x.instruction(2 * i, 2), places[i]);
            edges.is(what + ", MODE of " + i, x.instruction(2 * i, 3), due[i]);
        }
        edges.is(what + ", it reads", x.read(), 23 * places.length);
    }

    private void farModes() {
        edges.test(MODES, "fewest octets: an address of 127 and of 128, and HERE less 127 and less 128", () -> {
            modesOf("HERE - 127", 1000, of(873), 1);
            modesOf("HERE - 128", 1000, of(872), 0);
            modesOf("127", 1000, of(127), 0);
            modesOf("128", 255, of(128), 1);
            modesOf("128, and HERE - 128", 256, of(128), 0);
        });
        edges.test(MODES, "of these the least: MODE 0 before 1, and at address 0 before all", () -> {
            modesOf("both in one octet", 150, of(100), 0);
            modesOf("both in two octets", 1000, of(500), 0);
            modesOf("0", 1000, of(0), 0);
            modesOf("0 once more", 1000, of(0, 0), 0, 0);
        });
    }

    private void nearModes() {
        edges.test(MODES, "fewest octets: a near one and 127, or 128", () -> {
            modesOf("127 more", 1000, of(300, 427), 0, 2);
            modesOf("128 more", 1000, of(300, 428), 0, 0);
            modesOf("the same", 1000, of(300, 300), 0, 2);
            modesOf("1 less", 1000, of(300, 299), 0, 0);
        });
        edges.test(MODES, "of these the least: MODE 1 before a near one, and that before a same one", () -> {
            modesOf("HERE and a near one", 1000, of(880, 905), 1, 1);
            modesOf("two near ones", 1000, of(300, 310, 320), 0, 2, 2);
            modesOf("the second of them alone", 2000, of(300, 600, 610), 0, 0, 3);
            modesOf("the last of them alone", 3000, of(300, 600, 900, 1200, 1210), 0, 0, 0, 0, 5);
            modesOf("a near one and a same one", 1000, of(300, 600, 300), 0, 0, 2);
        });
        edges.test(MODES, "the ring turns where it is written too", () -> {
            modesOf("the fifth takes the first place", 3000, of(300, 600, 900, 1200, 1500, 1501, 301),
                    0, 0, 0, 0, 0, 2, 0);
        });
    }

    private void sameModes() {
        edges.test(MODES, "a same one, where all others have more octets", () -> {
            modesOf("of the third 256", 3000, of(600, 300, 450, 150, 201, 600), 0, 0, 0, 0, 5, 8);
            modesOf("of the second 256", 3000, of(511, 1000, 1200, 1400, 1600, 511), 0, 0, 0, 0, 0, 7);
            modesOf("of the first 256", 3000, of(255, 1000, 1200, 1400, 1600, 255), 0, 0, 0, 0, 0, 6);
            modesOf("256 is of the second 256", 3000, of(256, 1000, 1200, 1400, 1600, 256), 0, 0, 0, 0, 0, 7);
            modesOf("512 is of the third 256", 3000, of(512, 1000, 1200, 1400, 1600, 512), 0, 0, 0, 0, 0, 8);
            modesOf("768 is of the first 256", 3000, of(768, 1000, 1200, 1400, 1600, 768), 0, 0, 0, 0, 0, 6);
            modesOf("767 is of the third 256", 3000, of(767, 1000, 1200, 1400, 1600, 767), 0, 0, 0, 0, 0, 8);
        });
        edges.test(MODES, "a same one is gone where another one took its place", () -> {
            modesOf("768 more", 3000, of(600, 1368, 1000, 1200, 1600, 2000, 600), 0, 0, 0, 0, 0, 0, 0);
            modesOf("the other one is there", 3000, of(600, 1368, 1000, 1200, 1600, 2000, 1368), 0, 0, 0, 0, 0, 0, 8);
        });
    }

    private void ownModes() {
        edges.test(MODES, "by OWN TABLE's NEAR and SAME, at their ends", () -> {
            ownModesOf(0, 0, of(300, 310, 300), 0, 0, 0);
            ownModesOf(0, 1, of(300, 310, 300), 0, 0, 2);
            ownModesOf(0, 1, of(300, 556, 300), 0, 0, 0);
            ownModesOf(0, 4, of(1023, 1500, 1023), 0, 0, 5);
            ownModesOf(0, 4, of(1024, 1500, 1024), 0, 0, 2);
            ownModesOf(1, 0, of(300, 310, 600, 310), 0, 2, 0, 0);
            ownModesOf(1, 1, of(300, 310, 600, 310), 0, 2, 0, 3);
            int[] eight = {300, 600, 900, 1200, 1500, 1800, 2100, 2400, 2410, 310};
            ownModesOf(8, 0, eight, 0, 0, 0, 0, 0, 0, 0, 0, 9, 0);
            int[] again = {300, 600, 900, 1200, 1500, 1800, 2100, 2400, 310};
            ownModesOf(8, 4, again, 0, 0, 0, 0, 0, 0, 0, 0, 2);
        });
    }

    private void modesByWindow() {
        edges.test(MODES, "CACHES are 0 at each window's beginning, where it is written", () -> {
            CodedDeltas x = new CodedDeltas();
            x.fill(Rows.SOURCE, 0, 2000, 3);
            for (int place : of(600, 600, 600, 605)) {
                x.copy(Rows.SOURCE, place, 50, Rows.TARGET);
            }
            x.write(1, 1, 50, false);
            steps("each window begins anew", x, of(COPY, 50, 600, 0), of(COPY, 50, 600, 0), of(COPY, 50, 600, 0),
                    of(COPY, 50, 605, 0));
            x.feed(Rows.TARGET, 0, 0);
            for (int place : of(300, 1000, 1500, 600, 605)) {
                x.copy(Rows.SOURCE, place, 50, Rows.TARGET);
            }
            x.write(1, 1, 150, false);
            steps("the ring begins at its first place", x, of(COPY, 50, 300, 0), of(COPY, 50, 1000, 0),
                    of(COPY, 50, 1500, 0), of(COPY, 50, 600, 0), of(COPY, 50, 605, 2));
            edges.is("it reads", x.read(), 250);
        });
    }

    private void refused(String what, CodedDeltas x, int way, int by, int window, boolean own, int due) {
        State before = new State(x);
        edges.is(what, x.write(way, by, window, own), due);
        edges.isTrue(what + ", nothing changed", before.isThatOf(x));
    }

    private void write() {
        int least = Integer.MIN_VALUE;
        int most = Integer.MAX_VALUE;
        edges.test("Promise 12", "-2 way, or by, is not 0 .. 2", () -> {
            CodedDeltas x = object("abcdefgh", "abcdefgh");
            x.write(1, 1, 50, false);
            for (int v : of(-1, 3, least, most)) {
                refused("way " + v, x, v, 1, 50, false, -2);
                refused("by " + v, x, 1, v, 50, false, -2);
            }
            edges.isTrue("2 and 2", x.write(2, 2, 50, false) > 0);
            edges.isTrue("0 and 0", x.write(0, 0, 50, false) > 0);
        });
        edges.test("Promise 12", "-2 window not 50 .. 4000", () -> {
            CodedDeltas x = object("abcdefgh", "abcdefgh");
            x.write(1, 1, 50, false);
            for (int v : of(49, 4001, 0, -50, least, most)) {
                refused("window " + v, x, 1, 1, v, false, -2);
            }
            edges.is("50", x.write(1, 1, 50, false), 5 + 9 + 2);
            edges.is("4000", x.write(1, 1, 4000, false), 5 + 9 + 2);
        });
        edges.test("Promise 12", "-2 OWN TABLE, which is told by own, is not RIGHT", () -> {
            CodedDeltas x = object("abcdefgh", "abcdefgh");
            x.write(1, 1, 50, false);
            x.tableOctet(255, 4);
            refused("a part 4", x, 1, 1, 50, true, -2);
            edges.isTrue("it is not told", x.write(1, 1, 50, false) > 0);
            x.tableOctet(255, 3);
            edges.isTrue("it is RIGHT", x.write(1, 1, 50, true) > 0);
            x.caches(3, 3);
            refused("a MODE 8 of 8", x, 1, 1, 50, true, -2);
            x.feed(Rows.TARGET, 0, 0);
            refused("with an empty TARGET", x, 1, 1, 50, true, -2);
        });
        edges.test("Promise 12", "is written into DELTA: how many octets", () -> {
            CodedDeltas x = object("abcdefgh", "abcdefgh");
            x.fill(Rows.DELTA, 0, 8000, 1);
            edges.is("DELTA was full", x.write(1, 1, 50, false), 16);
            edges.is("its length", x.length(Rows.DELTA), 16);
            edges.is("none behind", x.octet(Rows.DELTA, 16), -1);
            edges.is("SOURCE stays", x.length(Rows.SOURCE), 8);
            edges.is("TARGET stays", x.length(Rows.TARGET), 8);
        });
        edges.test("Promise 12", "What leads from SOURCE to TARGET, both full, by each way and segment", () -> {
            CodedDeltas x = new CodedDeltas();
            x.fill(Rows.SOURCE, 1, 4000, 1);
            x.fill(Rows.TARGET, 1, 4000, 2);
            int[] target = Rows.get(x, Rows.TARGET);
            for (int i = 0; i < 9; i++) {
                int size = x.write(i / 3, i % 3, i % 2 == 0 ? 50 : 4000, false);
                edges.isTrue("written", size > 0 && size == x.length(Rows.DELTA));
                edges.is("it reads", x.read(), 4000);
                edges.isTrue("TARGET again", Arrays.equals(Rows.get(x, Rows.TARGET), target));
            }
        });
    }

    /** Rows by rules, others in each round. */
    private static void setRound(CodedDeltas x, int round) {
        x.feed(Rows.SOURCE, 0, 0);
        x.feed(Rows.TARGET, 0, 0);
        x.fill(Rows.SOURCE, round % 4, 60 + 37 * (round % 9), round);
        x.fill(Rows.TARGET, 1, 10 + round % 30, 7 * round);
        x.copy(Rows.SOURCE, round % 50, 10 + round % 40, Rows.TARGET);
        x.fill(Rows.TARGET, 3 - round % 4, 90, 3 * round);
        x.copy(Rows.TARGET, round % 20, 60, Rows.TARGET);
    }

    private void again() {
        edges.test("Promise 12", "What leads from SOURCE to TARGET, whatever was written before", () -> {
            CodedDeltas x = new CodedDeltas();
            for (int round = 1; round <= 120; round++) {
                CodedDeltas fresh = new CodedDeltas();
                int way = round % 3;
                int by = round / 3 % 3;
                int window = round % 2 == 0 ? 4000 : 50 + round % 60;
                setRound(x, round);
                setRound(fresh, round);
                edges.is("round " + round, x.write(way, by, window, false), fresh.write(way, by, window, false));
                edges.isTrue("DELTA of round " + round, Arrays.equals(Rows.get(x, Rows.DELTA), Rows.get(fresh, Rows.DELTA)));
            }
        });
    }

    private void room() {
        edges.test("Promise 12", "-4 it would have more than 8000", () -> {
            CodedDeltas x = new CodedDeltas();
            int[] string = Dear.noise();
            for (int i = 0; i < 1536; i++) {
                x.tableOctet(i, string[i]);
            }
            x.caches(0, 0);
            Dear.setRows(x);
            // All pieces of SOURCE have addresses of two octets, but this one.
            int[] piece = new int[4];
            for (int i = 0; i < 4; i++) {
                piece[i] = x.octet(Rows.TARGET, 1 + i);
                x.alter(Rows.TARGET, 1 + i, x.octet(Rows.SOURCE, 60 + i));
            }
            refused("8001", x, 1, 1, 51, true, -4);
            refused("-2 before -4", x, 1, 3, 51, true, -2);
            x.cut(Rows.TARGET, 3999);
            edges.is("8000", x.write(1, 1, 51, true), 8000);
            edges.is("DELTA's length", x.length(Rows.DELTA), 8000);
            for (int i = 0; i < 4; i++) {
                x.alter(Rows.TARGET, 1 + i, piece[i]);
            }
            refused("8001 by an address", x, 1, 1, 51, true, -4);
            edges.is("what was written before reads", x.read(), 3999);
        });
        edges.test("Promise 12", "-5 comes before -4", () -> {
            CodedDeltas x = new CodedDeltas();
            int[] string = Dear.noise();
            for (int i = 0; i < 1536; i++) {
                x.tableOctet(i, string[i]);
            }
            x.caches(0, 0);
            Dear.setRows(x);
            refused("too long", x, 1, 1, 51, true, -4);
            x.tableOctet(512 + 255, 2);
            refused("and no code for ADD 1", x, 1, 1, 51, true, -5);
        });
    }
}
