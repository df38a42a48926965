import java.util.Arrays;

/** Promise 14, and 15 and 16 for what is joined. */
public final class JoinTest {
    private static final Due due = new Due("JoinTest");
    private static final int[] NO = {};

    private JoinTest() {
    }

    public static void main(String[] args) {
        twoCopies();
        traces();
        short3();
        empties();
        faults();
        fromB();
        longOnes();
        shorterThanBefore();
        due.end();
    }

    private static int[] of(int... octets) {
        return octets;
    }

    /** SOURCE has the octets 0, 1, .. 99. */
    private static CodedDeltas object(int[] delta, int[] second) {
        CodedDeltas x = new CodedDeltas();
        for (int i = 0; i < 100; i++) {
            x.feed(Rows.SOURCE, i, 1);
        }
        Rows.set(x, Rows.TARGET, 1, 2, 3);
        Rows.set(x, Rows.DELTA, delta);
        Rows.set(x, Rows.SECOND, second);
        return x;
    }

    private static void joined(String what, CodedDeltas x, int... delta) {
        int[] second = Rows.get(x, Rows.SECOND);
        due.is(what, x.join(), delta.length);
        due.isTrue(what + ", DELTA " + Arrays.toString(Rows.get(x, Rows.DELTA)),
                Arrays.equals(Rows.get(x, Rows.DELTA), delta));
        due.isTrue(what + ", SECOND", Arrays.equals(Rows.get(x, Rows.SECOND), second));
        due.isTrue(what + ", TARGET", Arrays.equals(Rows.get(x, Rows.TARGET), of(1, 2, 3)));
        due.is(what + ", fault", x.told(0), 0);
    }

    private static void steps(CodedDeltas x, int[]... steps) {
        for (int k = 0; k < steps.length; k++) {
            for (int what = 0; what < 6; what++) {
                due.is("instruction(" + k + ", " + what + ")", x.instruction(k, what), steps[k][what]);
            }
        }
        due.is("no more instructions", x.instruction(steps.length, 0), -1);
    }

    private static void twoCopies() {
        // B is 20 .. 29, 200, 201; C is 25 .. 29, 200, 201, 77.
        CodedDeltas x = object(
                Rows.plain(Rows.window(1, 50, 10, Rows.tail(12, of(200, 201), of(26, 3), of(10)))),
                Rows.plain(Rows.window(1, 12, 0, Rows.tail(8, of(77), of(23, 2), of(5)))));
        joined("a copy of a copy", x, Rows.plain(Rows.window(1, 100, 0,
                Rows.tail(8, of(200, 201, 77), of(21, 4), of(25)))));
        steps(x, of(3, 5, 25, 0, 21, 0), of(1, 3, 0, 0, 4, 0));
        due.is("windows of SECOND", x.told(2), 1);
        due.is("instructions of SECOND", x.told(3), 2);
        due.is("it reads", x.read(), 8);
        due.is("it makes C", x.octet(Rows.TARGET, 7), 77);
    }

    private static void traces() {
        // B by two windows: 4 5 6 7 4 5 6 7 and then, of TARGET, 6 7 4 5: all of it from SOURCE.
        int[] delta = Rows.plain(Rows.window(1, 4, 4, Rows.tail(8, NO, of(24), of(0))),
                Rows.window(2, 8, 0, Rows.tail(4, NO, of(20), of(2))));
        int[] second = Rows.plain(Rows.window(1, 12, 0, Rows.tail(12, NO, of(28), of(0))));
        CodedDeltas x = object(delta, second);
        joined("by windows of TARGET, and overlapping", x, Rows.plain(Rows.window(1, 100, 0,
                Rows.tail(12, of(6, 7, 4, 5), of(20, 20, 5), of(4, 4)))));
        steps(x, of(3, 4, 4, 0, 20, 0), of(3, 4, 4, 0, 20, 0), of(1, 4, 0, 0, 5, 0));
        // C takes B's 7 4 5 6 7 6 7 4 5; then once more its own beginning.
        second = Rows.plain(Rows.window(1, 12, 0, Rows.tail(14, NO, of(25, 21), of(3, 12))));
        x = object(delta, second);
        joined("runs on through C", x, Rows.plain(Rows.window(1, 100, 0,
                Rows.tail(14, of(7, 6, 7, 4, 5, 7), of(163, 6, 20), of(4, 4)))));
        due.is("two instructions of SECOND", x.told(3), 2);
        due.is("five are told of the joined one", x.instruction(4, 0), -1);
    }

    private static void short3() {
        // RUNs and octets like SOURCE's are no copies; three on end are too few.
        CodedDeltas x = object(
                Rows.plain(Rows.window(1, 100, 0, Rows.tail(13, of(9), of(0, 6, 20, 19, 3), of(50, 60)))),
                Rows.plain(Rows.window(1, 13, 0, Rows.tail(13, NO, of(29), of(0)))));
        joined("three are ADDed", x, Rows.plain(Rows.window(1, 100, 0,
                Rows.tail(13, of(9, 9, 9, 9, 9, 9, 60, 61, 62), of(7, 20, 4), of(50)))));
        // Two copies that meet in SOURCE are one.
        x = object(
                Rows.plain(Rows.window(1, 100, 0, Rows.tail(6, NO, of(19, 3, 19, 3), of(50, 53)))),
                Rows.plain(Rows.window(1, 6, 0, Rows.tail(6, NO, of(22), of(0)))));
        joined("they meet", x, Rows.plain(Rows.window(1, 100, 0, Rows.tail(6, NO, of(22), of(50)))));
    }

    private static void empties() {
        CodedDeltas x = object(Rows.plain(), Rows.plain());
        joined("nothing", x, Rows.plain());
        due.is("no instruction", x.instruction(0, 0), -1);
        due.is("no window", x.told(2), 0);
        x = object(Rows.plain(Rows.window(2, of(5, 6), of(3), NO)), Rows.plain(Rows.window(0, NO, NO, NO)));
        joined("an empty C", x, Rows.plain());
        due.is("a window of SECOND", x.told(2), 1);
        x = object(Rows.plain(), Rows.plain(Rows.window(2, of(5, 6), of(3), NO)));
        x.feed(Rows.SOURCE, 0, 0);
        joined("an empty SOURCE", x, Rows.plain(Rows.window(2, of(5, 6), of(3), NO)));
    }

    private static void faults() {
        int[] good = Rows.plain(Rows.window(2, of(5, 6), of(3), NO));
        int[] bad = Rows.plain(Rows.window(1, of(8), of(2), NO), Rows.window(2, of(5, 6, 7), of(2, 2), NO));
        CodedDeltas x = object(bad, good);
        due.is("of DELTA", x.join(), -27);
        due.is("its place", x.told(1), bad.length);
        due.is("its windows", x.told(2), 1);
        due.is("its instructions", x.told(3), 3);
        due.is("they are told", x.instruction(2, 5), 1);
        due.isTrue("DELTA stays", Arrays.equals(Rows.get(x, Rows.DELTA), bad));
        x = object(good, bad);
        due.is("of SECOND", x.join(), -27);
        due.is("its place", x.told(1), bad.length);
        due.is("its instructions", x.told(3), 3);
        due.is("they are told", x.instruction(2, 5), 1);
        due.is("and no more", x.instruction(3, 5), -1);
        due.isTrue("DELTA stays", Arrays.equals(Rows.get(x, Rows.DELTA), good));
        x = object(of(1), of(2));
        due.is("of DELTA first", x.join(), -12);
        x = object(good, of());
        due.is("an empty SECOND", x.join(), -11);
        due.is("its place", x.told(1), 0);
        due.is("without instructions", x.instruction(0, 0), -1);
    }

    private static void fromB() {
        int[] two = Rows.plain(Rows.window(2, of(5, 6), of(3), NO));
        CodedDeltas x = object(two, Rows.plain(Rows.window(1, 3, 0, Rows.tail(0, NO, NO, NO))));
        due.is("a segment beyond B", x.join(), -16);
        due.is("its place", x.told(1), 7);
        x = object(two, Rows.plain(Rows.window(1, 2, 0, Rows.tail(4, NO, of(20), of(0)))));
        joined("a segment of B", x, Rows.plain(Rows.window(1, 100, 0, Rows.tail(4, of(5, 6, 5, 6), of(5), NO))));
    }

    /** What an earlier, longer row came from has nothing to do with a later one. */
    private static void shorterThanBefore() {
        int[] all = Rows.plain(Rows.window(1, 100, 0, Rows.tail(100, NO, of(19, 100), of(0))));
        CodedDeltas x = object(all, all);
        due.is("all of SOURCE", x.join() > 0 ? 1 : 0, 1);
        Rows.set(x, Rows.SECOND, Rows.plain(Rows.window(1, 100, 0, Rows.tail(5, NO, of(21), of(0)))));
        joined("five octets of it", x, Rows.plain(Rows.window(1, 100, 0, Rows.tail(5, NO, of(21), of(0)))));
        steps(x, of(3, 5, 0, 0, 21, 0));
        Rows.set(x, Rows.SECOND, Rows.plain(Rows.window(1, 5, 0, Rows.tail(3, NO, of(19, 3), of(0)))));
        joined("three octets of it", x, Rows.plain(Rows.window(1, 100, 0, Rows.tail(3, of(0, 1, 2), of(4), NO))));
    }

    private static void longOnes() {
        CodedDeltas x = new CodedDeltas();
        x.fill(Rows.SOURCE, 0, 4000, 1);
        x.copy(Rows.SOURCE, 0, 4000, Rows.TARGET);
        due.is("all of it", x.write(1, 1, 4000, false) > 0 ? 1 : 0, 1);
        x.copy(Rows.DELTA, 0, x.length(Rows.DELTA), Rows.SECOND);
        int size = x.length(Rows.DELTA);
        due.is("onto itself", x.join(), size);
        due.is("one COPY", x.instruction(0, 1), 4000);
        due.is("no other", x.instruction(1, 1), -1);
        due.is("it reads", x.read(), 4000);
    }
}
