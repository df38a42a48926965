import java.util.Arrays;

/** All that can be seen of an object without changing it. */
final class State {
    private final int[][] rows = new int[4][];
    private final int[] tables = new int[2 * 1537];
    private final int[] told = new int[4];
    private final int[] instructions;

    State(CodedDeltas x) {
        for (int row = 0; row < 4; row++) {
            rows[row] = Rows.get(x, row);
        }
        for (int i = 0; i < 1537; i++) {
            tables[i] = x.code(0, i - 1);
            tables[1537 + i] = x.code(1, i - 1);
        }
        for (int what = 0; what < 4; what++) {
            told[what] = x.told(what);
        }
        instructions = instructions(x);
    }

    private static int[] instructions(CodedDeltas x) {
        int n = count(x);
        int[] all = new int[6 * n];
        for (int i = 0; i < all.length; i++) {
            all[i] = x.instruction(i / 6, i % 6);
        }
        return all;
    }

    /** How many instructions are told. */
    static int count(CodedDeltas x) {
        int n = 0;
        while (x.instruction(n, 0) >= 0) {
            n++;
        }
        return n;
    }

    boolean isThatOf(CodedDeltas x) {
        State other = new State(x);
        return Arrays.deepEquals(rows, other.rows) && Arrays.equals(tables, other.tables)
                && Arrays.equals(told, other.told) && Arrays.equals(instructions, other.instructions);
    }
}
