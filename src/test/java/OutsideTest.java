import java.util.Arrays;
import java.util.HexFormat;

/** 'In a published form': a DELTA that another program wrote (xdelta3 3.0.11, -n -A= -S none -9). */
public final class OutsideTest {
    private static final Due due = new Due("OutsideTest");
    private static final String DELTA = "d6c3c40000018e2f813081038605001c3c25fd975c5387d99944641574985c5c48977479"
            + "b23d75876875254d9b8923212000283317033d2a1325024e1d03332604532000286319131a0028531b0323190028931902332103"
            + "131d632403331b9203631d028104831d044e850f830e812f810f81258306830081560082690000001d2f840281258251550900a5"
            + "29812e";
    /** What TARGET is made of: from where in SOURCE, how many; then other octets, how many and by which seed. */
    private static final int[][] PIECES = {
        {1360, 33, 0, 0}, {574, 16, -1, 253}, {1535, 23, 2, 916}, {1503, 13, 0, 861}, {1977, 10, 0, 405},
        {566, 37, 1, 232}, {950, 14, 0, 73}, {390, 13, 2, 756}, {1977, 38, 3, 937}, {1311, 32, -1, 21},
        {390, 25, 0, 14}, {176, 26, -1, 116}, {390, 27, 2, 927}, {390, 25, -1, 92}, {1503, 25, 1, 118},
        {904, 33, 2, 917}, {341, 29, 0, 393}, {1241, 36, 2, 611}, {426, 27, 0, 516}, {1977, 18, 2, 13},
        {1977, 29, 1, 755}, {341, 17, 3, 443}, {1241, 29, 3, 169}, {515, 14, 0, 852}};

    private OutsideTest() {
    }

    public static void main(String[] args) {
        CodedDeltas x = new CodedDeltas();
        x.fill(Rows.SOURCE, 0, 3000, 1);
        for (int[] piece : PIECES) {
            x.copy(Rows.SOURCE, piece[0], piece[1], Rows.SECOND);
            if (piece[2] < 0) {
                forty(x, piece[3]);
            } else {
                x.fill(Rows.SECOND, 0, piece[2], piece[3]);
            }
        }
        for (byte octet : HexFormat.of().parseHex(DELTA)) {
            x.feed(Rows.DELTA, octet, 1);
        }
        due.is("read", x.read(), 773);
        due.isTrue("TARGET", Arrays.equals(Rows.get(x, Rows.TARGET), Rows.get(x, Rows.SECOND)));
        due.is("windows", x.told(2), 1);
        due.is("instructions", x.told(3), 40);
        kindsAndModes(x);
        due.end();
    }

    private static void forty(CodedDeltas x, int v) {
        for (int i = 0; i < 40; i++) {
            x.feed(Rows.SECOND, v, 1);
        }
    }

    /** Otherwise it would say little about addresses. */
    private static void kindsAndModes(CodedDeltas x) {
        boolean[] kinds = new boolean[4];
        boolean[] modes = new boolean[9];
        for (int k = 0; k < x.told(3); k++) {
            kinds[x.instruction(k, 0)] = true;
            modes[x.instruction(k, 3)] |= x.instruction(k, 0) == Tables.COPY;
        }
        due.isTrue("all kinds", kinds[1] && kinds[2] && kinds[3]);
        for (int mode = 0; mode < 9; mode++) {
            due.isTrue("MODE " + mode, modes[mode]);
        }
    }
}
