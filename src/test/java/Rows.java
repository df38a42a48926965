/** Short ways to bring whole rows into an object and out of it. */
final class Rows {
    static final int SOURCE = 0;
    static final int TARGET = 1;
    static final int DELTA = 2;
    static final int SECOND = 3;

    private Rows() {
    }

    static void set(CodedDeltas x, int row, int... octets) {
        x.feed(row, 0, 0);
        for (int octet : octets) {
            x.feed(row, octet, 1);
        }
    }

    static void setText(CodedDeltas x, int row, String text) {
        set(x, row, text.chars().toArray());
    }

    static int[] get(CodedDeltas x, int row) {
        int[] octets = new int[x.length(row)];
        for (int i = 0; i < octets.length; i++) {
            octets[i] = x.octet(row, i);
        }
        return octets;
    }

    static int[] join(int[]... parts) {
        int size = 0;
        for (int[] part : parts) {
            size += part.length;
        }
        int[] all = new int[size];
        int at = 0;
        for (int[] part : parts) {
            System.arraycopy(part, 0, all, at, part.length);
            at += part.length;
        }
        return all;
    }

    static int[] of(int... octets) {
        return octets;
    }

    /** The DELTA with no table of its own and these windows behind its mark. */
    static int[] plain(int[]... windows) {
        return join(of(214, 195, 196, 0, 0), join(windows));
    }

    /** As few octets as tell a NUMBER. */
    static int[] number(long v) {
        int size = 1;
        while (v >> 7 * size != 0) {
            size++;
        }
        return longNumber(v, size);
    }

    /** A NUMBER in so many octets. */
    static int[] longNumber(long v, int size) {
        int[] octets = new int[size];
        for (int i = 0; i < size; i++) {
            int seven = (int) (v >> 7 * (size - 1 - i) & 127);
            octets[i] = i < size - 1 ? 128 | seven : seven;
        }
        return octets;
    }

    /** A window without segment. */
    static int[] window(int makes, int[] data, int[] codes, int[] addresses) {
        return join(of(0), tail(makes, data, codes, addresses));
    }

    /** A window with a segment. */
    static int[] window(int kind, int size, int from, int[] tail) {
        return join(of(kind), number(size), number(from), tail);
    }

    static int[] tail(int makes, int[] data, int[] codes, int[] addresses) {
        int[] rest = join(number(makes), of(0), number(data.length), number(codes.length),
                number(addresses.length), data, codes, addresses);
        return join(number(rest.length), rest);
    }
}
