import java.util.Arrays;

/** Promises 12 and 16: what is written, and its instructions. */
public final class WriteTest {
    private static final Due due = new Due("WriteTest");
    private static final int[] NO = {};
    private static final int ADD = 1;
    private static final int RUN = 2;
    private static final int COPY = 3;

    private WriteTest() {
    }

    public static void main(String[] args) {
        ranges();
        emptyTarget();
        wayNone();
        runs();
        leastAddress();
        laterMatch();
        segments();
        windows();
        modes();
        sameMode();
        codes();
        ownTable();
        ownTableChanged();
        codeZero();
        fewCaches();
        noCode();
        wrongTable();
        noRoom();
        longNumbers();
        due.end();
    }

    private static int[] of(int... octets) {
        return octets;
    }

    private static CodedDeltas object(String source, String target) {
        CodedDeltas x = new CodedDeltas();
        Rows.setText(x, Rows.SOURCE, source);
        Rows.setText(x, Rows.TARGET, target);
        return x;
    }

    private static void step(CodedDeltas x, int k, int... step) {
        for (int what = 0; what < step.length; what++) {
            due.is("instruction(" + k + ", " + what + ")", x.instruction(k, what), step[what]);
        }
    }

    private static void delta(String what, CodedDeltas x, int got, int... want) {
        due.is(what, got, want.length);
        int[] is = Rows.get(x, Rows.DELTA);
        due.isTrue(what + " " + Arrays.toString(is), Arrays.equals(is, want));
    }

    private static void ranges() {
        CodedDeltas x = object("abcd", "abcd");
        int size = x.write(1, 1, 50, false);
        int[] before = Rows.get(x, Rows.DELTA);
        due.is("way 3", x.write(3, 0, 50, false), -2);
        due.is("way -1", x.write(-1, 0, 50, false), -2);
        due.is("by 3", x.write(0, 3, 50, false), -2);
        due.is("by -1", x.write(0, -1, 50, false), -2);
        due.is("window 49", x.write(0, 0, 49, false), -2);
        due.is("window 4001", x.write(0, 0, 4001, false), -2);
        due.is("window least", x.write(0, 0, Integer.MIN_VALUE, false), -2);
        due.isTrue("DELTA stays", Arrays.equals(Rows.get(x, Rows.DELTA), before));
        step(x, 0, COPY, 4, 0, 0, 20, 0);
        due.is("window 4000", x.write(1, 1, 4000, false), size);
    }

    private static void emptyTarget() {
        CodedDeltas x = object("abcd", "");
        Rows.set(x, Rows.DELTA, 1, 2, 3, 4, 5, 6, 7);
        delta("no window", x, x.write(2, 1, 50, false), 214, 195, 196, 0, 0);
        due.is("no instruction", x.instruction(0, 0), -1);
    }

    private static void wayNone() {
        CodedDeltas x = object("abcd", "aaaaaaaa");
        delta("all is ADDed", x, x.write(0, 1, 50, false),
                Rows.plain(Rows.window(1, 4, 0, Rows.tail(8, of(97, 97, 97, 97, 97, 97, 97, 97), of(9), NO))));
        step(x, 0, ADD, 8, 0, 0, 9, 0);
        Rows.setText(x, Rows.TARGET, "0123456789abcdefgh");
        x.write(0, 0, 50, false);
        step(x, 0, ADD, 18, 0, 0, 1, 0);
    }

    private static void runs() {
        CodedDeltas x = object("", "aaaaaab");
        delta("a RUN of 6", x, x.write(1, 0, 50, false),
                Rows.plain(Rows.window(7, of(97, 98), of(0, 6, 2), NO)));
        step(x, 0, RUN, 6, 0, 0, 0, 0);
        step(x, 1, ADD, 1, 0, 0, 2, 0);
        Rows.setText(x, Rows.TARGET, "aaaaab");
        x.write(1, 0, 50, false);
        step(x, 0, ADD, 1, 0, 0, 163, 0);
        step(x, 1, COPY, 4, 0, 0);
        Rows.setText(x, Rows.SOURCE, "aaaaaa");
        Rows.setText(x, Rows.TARGET, "aaaaaa");
        x.write(1, 1, 50, false);
        step(x, 0, RUN, 6);
        Rows.setText(x, Rows.SOURCE, "aaaaaab");
        Rows.setText(x, Rows.TARGET, "aaaaaabx");
        x.write(1, 1, 50, false);
        step(x, 0, COPY, 7, 0, 0, 23, 0);
        step(x, 1, ADD, 1, 0, 0, 2, 0);
        due.is("no more", x.instruction(2, 0), -1);
    }

    private static void leastAddress() {
        CodedDeltas x = object("..abcd..abcde..abcde..abcd", "abcde");
        x.write(1, 1, 50, false);
        step(x, 0, COPY, 5, 8, 0, 21, 0);
        x = object("abc", "abcabcabcabcZ");
        x.write(1, 1, 50, false);
        step(x, 0, COPY, 12, 0, 0, 28, 0);
        x = object("", "abcdabcdabcdabcdabcd");
        x.write(1, 0, 50, false);
        step(x, 0, ADD, 4, 0, 0);
        step(x, 1, COPY, 16, 0, 0);
        x = object("abc", "abc");
        x.write(1, 1, 50, false);
        step(x, 0, ADD, 3, 0, 0, 4, 0);
    }

    private static void laterMatch() {
        CodedDeltas x = object("1abcd2bcdefg3", "abcdefg");
        x.write(1, 1, 50, false);
        step(x, 0, COPY, 4, 1);
        step(x, 1, ADD, 3);
        x.write(2, 1, 50, false);
        step(x, 0, ADD, 1);
        step(x, 1, COPY, 6, 6);
        due.is("no more", x.instruction(2, 0), -1);
        // Greater by 1 alone is not enough.
        x = object("1abcd2bcdef3", "abcdef");
        x.write(2, 1, 50, false);
        step(x, 0, COPY, 4, 1);
        step(x, 1, ADD, 2);
        // Each next place is better by 2: both octets are ADDed.
        x = object("1abcd2bcdefg3cdefghij4", "abcdefghij");
        x.write(2, 1, 50, false);
        step(x, 0, ADD, 2);
        step(x, 1, COPY, 8, 13);
        // A RUN is not put off, whatever the next place has.
        x = object("baaaaa", "aaaaaaab");
        x.write(2, 1, 50, false);
        step(x, 0, RUN, 7);
    }

    private static void segments() {
        String text = "0123456789abcdefghijklmnopqrstuvwxyzABCDEFGHIJKLMN";
        CodedDeltas x = object(text, text + text);
        x.write(1, 0, 50, false);
        due.is("by 0, no segment", x.octet(Rows.DELTA, 5), 0);
        step(x, 0, ADD, 50, 0, 0, 1, 0);
        step(x, 1, ADD, 50, 0, 0, 1, 1);
        x.write(1, 1, 50, false);
        due.is("by 1, of SOURCE", x.octet(Rows.DELTA, 5), 1);
        due.is("its size", x.octet(Rows.DELTA, 6), 50);
        due.is("its place", x.octet(Rows.DELTA, 7), 0);
        step(x, 0, COPY, 50, 0, 0, 19, 0);
        step(x, 1, COPY, 50, 0, 0, 19, 1);
        x.write(1, 2, 50, false);
        due.is("by 2, no octets before", x.octet(Rows.DELTA, 5), 0);
        due.is("of TARGET", x.octet(Rows.DELTA, 5 + 7 + 50 + 2), 2);
        due.is("its size", x.octet(Rows.DELTA, 5 + 7 + 50 + 3), 50);
        step(x, 1, COPY, 50, 0, 0, 19, 1);
        Rows.set(x, Rows.SOURCE);
        x.write(1, 1, 50, false);
        due.is("an empty SOURCE is no segment", x.octet(Rows.DELTA, 5), 0);
    }

    private static void windows() {
        CodedDeltas x = new CodedDeltas();
        x.fill(Rows.TARGET, 0, 101, 7);
        x.write(1, 0, 50, false);
        step(x, 0, ADD, 50, 0, 0, 1, 0);
        step(x, 1, ADD, 50, 0, 0, 1, 1);
        step(x, 2, ADD, 1, 0, 0, 2, 2);
        due.is("no more", x.instruction(3, 0), -1);
        due.is("it reads", x.read(), 101);
        due.is("windows", x.told(2), 3);
        // Neither a run nor a match goes beyond its window.
        x = new CodedDeltas();
        Rows.set(x, Rows.TARGET, new int[100]);
        x.write(1, 2, 60, false);
        step(x, 0, RUN, 60, 0, 0, 0, 0);
        step(x, 1, RUN, 40, 0, 0, 0, 1);
    }

    /** TARGET is 20 octets of SOURCE from each place, with three others behind each. */
    private static CodedDeltas pieces(int sourceSize, int[] places) {
        CodedDeltas x = new CodedDeltas();
        x.fill(Rows.SOURCE, 0, sourceSize, 3);
        for (int i = 0; i < places.length; i++) {
            x.copy(Rows.SOURCE, places[i], 20, Rows.TARGET);
            x.fill(Rows.TARGET, 0, 3, 7919 * (i + 1));
        }
        x.write(1, 1, 4000, false);
        return x;
    }

    private static void modes() {
        int[] places = {127, 128, 930, 255, 300, 950, 310, 127};
        int[] modes = {0, 2, 1, 3, 5, 4, 2, 0};
        CodedDeltas x = pieces(1000, places);
        for (int i = 0; i < 8; i++) {
            step(x, 2 * i, COPY, 20, places[i], modes[i]);
        }
    }

    private static void sameMode() {
        int[] places = {600, 300, 450, 150, 200, 600, 1368, 1100, 1250, 10, 20, 600, 1900};
        CodedDeltas x = pieces(2000, places);
        // 600 stands in the third of the same ones until 1368, which is 600 + 768, comes there.
        int[] modes = {0, 0, 0, 0, 5, 8, 0, 0, 0, 0, 0, 0, 0};
        for (int i = 0; i < places.length; i++) {
            step(x, 2 * i, COPY, 20, places[i], modes[i]);
        }
        due.is("it reads", x.read(), 23 * places.length);
        step(x, 10, COPY, 20, 600, 8);
    }

    private static void codes() {
        CodedDeltas x = object("abcdefgh", "abcdXefghYYabcdefgh");
        delta("pairs", x, x.write(1, 1, 50, false), Rows.plain(Rows.window(1, 8, 0,
                Rows.tail(19, of(88, 89, 89), of(247, 20, 3, 24), of(0, 4, 0)))));
        step(x, 0, COPY, 4, 0, 0, 247, 0);
        step(x, 1, ADD, 1, 0, 0, 247, 0);
        step(x, 2, COPY, 4, 4, 0, 20, 0);
        step(x, 3, ADD, 2, 0, 0, 3, 0);
        step(x, 4, COPY, 8, 0, 0, 24, 0);
        x = object("abcdefgh", "Xabcdefgh");
        x.write(1, 1, 50, false);
        step(x, 0, ADD, 1, 0, 0, 2, 0);
        step(x, 1, COPY, 8, 0, 0, 24, 0);
        x = object("abcdef", "WXYZabcdef");
        x.write(1, 1, 50, false);
        step(x, 1, COPY, 6, 0, 0, 163 + 11, 0);
    }

    private static void ownTable() {
        CodedDeltas x = object("abcd", "abcd");
        // All of the first STRING by one COPY.
        int[] table = Rows.join(of(4, 3, 214, 195, 196, 0, 0, 1, 140, 0, 0, 10, 140, 0, 0, 0, 3, 1, 19, 140, 0, 0));
        delta("the first one told", x, x.write(1, 1, 50, true), Rows.join(of(214, 195, 196, 0, 2, table.length), table,
                Rows.window(1, 4, 0, Rows.tail(4, NO, of(20), of(0)))));
        due.is("one instruction", x.instruction(1, 0), -1);
        step(x, 0, COPY, 4, 0, 0, 20, 0);
        due.is("it reads", x.read(), 4);
        Rows.set(x, Rows.TARGET);
        due.is("with an empty TARGET", x.write(0, 0, 50, true), 6 + table.length);
        due.is("it reads", x.read(), 0);
    }

    private static void ownTableChanged() {
        CodedDeltas x = object("abcdefgh", "abcdefghZZZZZZZXY");
        x.caches(0, 0);
        for (int code = 0; code < 256; code++) {
            x.tableOctet(code, 0);
            x.tableOctet(256 + code, 0);
        }
        Tables.part(x, 9, 0, ADD, 0, 77);
        Tables.part(x, 8, 0, RUN, 7, 5);
        Tables.part(x, 8, 1, ADD, 2, 4);
        Tables.part(x, 7, 0, RUN, 7, 0);
        Tables.part(x, 7, 1, ADD, 2, 0);
        Tables.part(x, 5, 0, COPY, 8, 1);
        Tables.part(x, 6, 0, COPY, 0, 0);
        due.is("right", x.code(1, -1), 1);
        due.is("written", x.write(1, 1, 50, true) > 0 ? 1 : 0, 1);
        step(x, 0, COPY, 8, 0, 0, 6, 0);
        step(x, 1, RUN, 7, 0, 0, 7, 0);
        step(x, 2, ADD, 2, 0, 0, 7, 0);
        due.is("it reads", x.read(), 17);
        due.is("instructions", x.told(3), 3);
        Tables.part(x, 4, 1, COPY, 8, 0);
        Tables.part(x, 3, 0, COPY, 8, 0);
        Tables.part(x, 3, 1, RUN, 7, 0);
        x.write(1, 1, 50, true);
        step(x, 0, COPY, 8, 0, 0, 3, 0);
        step(x, 1, RUN, 7, 0, 0, 3, 0);
        step(x, 2, ADD, 2, 0, 0, 9, 0);
        due.is("it reads", x.read(), 17);
        due.is("without OWN TABLE", x.write(1, 1, 50, false) > 0 ? 1 : 0, 1);
        step(x, 0, COPY, 8, 0, 0, 24, 0);
    }

    private static void codeZero() {
        CodedDeltas x = object("abcdefgh", "abcdefghZ");
        Tables.part(x, 0, 0, COPY, 8, 0);
        Tables.part(x, 0, 1, ADD, 1, 0);
        x.write(1, 1, 50, true);
        step(x, 0, COPY, 8, 0, 0, 0, 0);
        step(x, 1, ADD, 1, 0, 0, 0, 0);
        due.is("it reads", x.read(), 9);
        Tables.part(x, 0, 1, 0, 0, 0);
        x.write(1, 1, 50, true);
        step(x, 0, COPY, 8, 0, 0, 0, 0);
        step(x, 1, ADD, 1, 0, 0, 2, 0);
        due.is("it reads", x.read(), 9);
    }

    /** One near address and one times 256 same ones, or one of both alone. */
    private static void fewCaches() {
        CodedDeltas x = pieces(2000, of(600, 1000, 600, 610, 856, 1300, 600, 1300));
        for (int code = 0; code < 256; code++) {
            x.tableOctet(code, 0);
            x.tableOctet(256 + code, 0);
        }
        Tables.part(x, 10, 0, ADD, 0, 0);
        Tables.part(x, 11, 0, RUN, 0, 0);
        int[][] caches = {{1, 1}, {0, 1}, {1, 0}, {0, 0}};
        int[][] modes = {{0, 0, 3, 2, 0, 0, 0, 3}, {0, 0, 2, 0, 0, 0, 0, 2}, {0, 0, 0, 2, 0, 0, 0, 0}, {0, 0, 0, 0, 0, 0, 0, 0}};
        for (int i = 0; i < 4; i++) {
            x.caches(caches[i][0], caches[i][1]);
            for (int mode = 0; mode < 4; mode++) {
                Tables.part(x, 20 + mode, 0, mode < caches[i][0] + caches[i][1] + 2 ? COPY : 0, 0, mode);
            }
            due.is("written", x.write(1, 1, 4000, true) > 0 ? 1 : 0, 1);
            for (int k = 0; k < 8; k++) {
                step(x, 2 * k, COPY, 20);
                due.is("caches " + i + ", mode of " + k, x.instruction(2 * k, 3), modes[i][k]);
                due.is("its code", x.instruction(2 * k, 4), 20 + modes[i][k]);
            }
            due.is("it reads", x.read(), 8 * 23);
        }
    }

    private static void noCode() {
        CodedDeltas x = object("abcdefgh", "abcd");
        x.write(0, 0, 50, false);
        int[] before = Rows.get(x, Rows.DELTA);
        x.tableOctet(19, 0);
        due.is("a size of its own is there", x.write(1, 1, 50, true) > 0 ? 1 : 0, 1);
        x.write(0, 0, 50, false);
        x.tableOctet(20, 0);
        due.is("no COPY of MODE 0", x.write(1, 1, 50, true), -5);
        due.isTrue("DELTA stays", Arrays.equals(Rows.get(x, Rows.DELTA), before));
        step(x, 0, ADD, 4, 0, 0, 5, 0);
        due.is("no COPY is needed", x.write(0, 1, 50, true) > 0 ? 1 : 0, 1);
        // A code whose first part is nothing does not help.
        Tables.part(x, 20, 1, COPY, 4, 0);
        due.is("a second part alone", x.write(1, 1, 50, true), -5);
        // The later windows count too.
        x = object("", "0123456789012345678901234567890123456789012345678901");
        x.tableOctet(3, 0);
        x.tableOctet(1, 1);
        due.is("two windows", x.write(0, 0, 50, true) > 0 ? 1 : 0, 1);
        Tables.part(x, 1, 0, ADD, 50, 0);
        due.is("no ADD of 2", x.write(0, 0, 50, true), -5);
        x.cut(Rows.TARGET, 50);
        due.is("one window", x.write(0, 0, 50, true) > 0 ? 1 : 0, 1);
    }

    private static void wrongTable() {
        CodedDeltas x = object("abcd", "abcd");
        x.tableOctet(0, 4);
        due.is("not right", x.write(1, 1, 50, true), -2);
        due.is("nothing is written", x.length(Rows.DELTA), 0);
        due.is("it is not told", x.write(1, 1, 50, false) > 0 ? 1 : 0, 1);
        x.tableOctet(0, 2);
        x.caches(3, 3);
        due.is("a mode is too great", x.write(1, 1, 50, true), -2);
    }

    /** A table that is all noise, and a TARGET of which each five octets cost seven. */
    private static void noRoom() {
        CodedDeltas x = new CodedDeltas();
        int[] string = Dear.noise();
        for (int i = 0; i < 1536; i++) {
            x.tableOctet(i, string[i]);
        }
        x.caches(0, 0);
        due.is("right", x.code(1, -1), 1);
        Dear.setRows(x);
        int[] source = Rows.get(x, Rows.SOURCE);
        int[] target = Rows.get(x, Rows.TARGET);
        Reference.Codes own = new Reference.Codes(string, 0, 0);
        Reference.Written w = Reference.write(source, target, 1, 1, 51, own);
        due.is("it is to be too long, and is " + w.delta.length, w.answer, -4);
        due.is("a short one before", x.write(0, 1, 4000, false) > 0 ? 1 : 0, 1);
        int[] before = Rows.get(x, Rows.DELTA);
        due.is("too long", x.write(1, 1, 51, true), -4);
        due.isTrue("DELTA stays", Arrays.equals(Rows.get(x, Rows.DELTA), before));
        step(x, 0, ADD, target.length, 0, 0, 1, 0);
        due.is("no more", x.instruction(1, 0), -1);
        x.tableOctet(512 + 255, 2);
        due.is("-5 before -4", x.write(1, 1, 51, true), -5);
        x.tableOctet(512 + 255, 0);
        for (int n = target.length; n > 0 && w.answer < 0; n--) {
            w = Reference.write(source, Arrays.copyOf(target, n), 1, 1, 51, own);
            x.cut(Rows.TARGET, n);
            due.is("with " + n, x.write(1, 1, 51, true), w.answer);
        }
        due.is("it reads", x.read(), x.length(Rows.TARGET));
    }

    private static void longNumbers() {
        CodedDeltas x = new CodedDeltas();
        x.fill(Rows.TARGET, 0, 128, 1);
        due.is("128 octets", x.write(0, 0, 4000, false), 5 + 1 + 2 + 2 + 1 + 2 + 1 + 1 + 128 + 3);
        due.is("n, first", x.octet(Rows.DELTA, 8), 129);
        due.is("n, second", x.octet(Rows.DELTA, 9), 0);
        x.cut(Rows.TARGET, 127);
        due.is("127 octets", x.write(0, 0, 4000, false), 5 + 1 + 2 + 1 + 1 + 1 + 1 + 1 + 127 + 2);
    }
}
