/** Promises 1 to 8: the rows. */
public final class RowsTest {
    private static final Due due = new Due("RowsTest");
    private static final int[] ROOMS = {4000, 4000, 8000, 8000};

    private RowsTest() {
    }

    public static void main(String[] args) {
        newObject();
        feed();
        feedRoom();
        fill();
        fillEdges();
        copy();
        copyEdges();
        alterAndCut();
        due.end();
    }

    private static void newObject() {
        CodedDeltas x = new CodedDeltas();
        for (int row = 0; row < 4; row++) {
            due.is("length of a new row", x.length(row), 0);
            due.is("octet of a new row", x.octet(row, 0), -1);
        }
        due.is("length(-1)", x.length(-1), -1);
        due.is("length(4)", x.length(4), -1);
        for (int i = -1; i < 1536; i++) {
            due.is("own table at " + i, x.code(1, i), x.code(0, i));
        }
        for (int what = 0; what < 4; what++) {
            due.is("told of a new object", x.told(what), 0);
        }
        due.is("instruction of a new object", x.instruction(0, 0), -1);
    }

    private static void feed() {
        CodedDeltas x = new CodedDeltas();
        due.is("feed 3", x.feed(0, 0xFF010203L, 3), 3);
        due.is("feed 8", x.feed(0, 0x8090A0B0C0D0E0F0L, 8), 11);
        due.is("feed -1", x.feed(0, -1L, 2), 13);
        int[] want = {1, 2, 3, 128, 144, 160, 176, 192, 208, 224, 240, 255, 255};
        for (int i = 0; i < want.length; i++) {
            due.is("octet " + i, x.octet(0, i), want[i]);
        }
        due.is("octet behind", x.octet(0, 13), -1);
        due.is("octet before", x.octet(0, -1), -1);
        due.is("octet of no row", x.octet(4, 0), -1);
        due.is("octet of no row", x.octet(-1, 0), -1);
        due.is("no row", x.feed(4, 1, 1), -2);
        due.is("no row", x.feed(-1, 1, 0), -2);
        due.is("n 9", x.feed(0, 1, 9), -2);
        due.is("n -1", x.feed(0, 1, -1), -2);
        due.is("still", x.length(0), 13);
        due.is("other rows", x.length(1), 0);
        due.is("emptied", x.feed(0, 77, 0), 0);
        due.is("emptied", x.length(0), 0);
        due.is("emptied", x.octet(0, 0), -1);
    }

    private static void feedRoom() {
        for (int row = 0; row < 4; row++) {
            CodedDeltas x = new CodedDeltas();
            int room = ROOMS[row];
            due.is("fill all but 3", x.fill(row, 0, room - 3, 1), room - 3);
            due.is("feed 4", x.feed(row, 1, 4), -4);
            due.is("-2 before -4", x.feed(row, 1, 9), -2);
            due.is("nothing changed", x.length(row), room - 3);
            due.is("feed 3", x.feed(row, 0x070809, 3), room);
            due.is("feed 1", x.feed(row, 1, 1), -4);
            due.is("fill 1", x.fill(row, 0, 1, 1), -4);
            due.is("fill 0", x.fill(row, 0, 0, 1), room);
            due.is("the last", x.octet(row, room - 1), 9);
            due.is("behind it", x.octet(row, room), -1);
        }
    }

    private static void fill() {
        for (int kind = 0; kind < 4; kind++) {
            for (int seed : new int[] {0, 1, 9, -5, Integer.MAX_VALUE, Integer.MIN_VALUE}) {
                CodedDeltas x = new CodedDeltas();
                x.feed(1, 0x0102030405L, 5);
                due.is("fill", x.fill(1, kind, 300, seed), 305);
                int[] want = new int[305];
                for (int i = 0; i < 5; i++) {
                    want[i] = i + 1;
                }
                long z = seed & 0xFFFFFFFFL;
                for (int i = 5; i < 305; i++) {
                    z = (z * 1664525 + 1013904223) & 0xFFFFFFFFL;
                    want[i] = ruled(want, i, kind, (int) (z >> 24));
                }
                for (int i = 0; i < 305; i++) {
                    due.is("kind " + kind + " seed " + seed + " octet " + i, x.octet(1, i), want[i]);
                }
            }
        }
    }

    private static int ruled(int[] row, int i, int kind, int r) {
        switch (kind) {
            case 1:
                return 97 + r % 4;
            case 2:
                return i >= 17 && r < 240 ? row[i - 17] : r;
            case 3:
                return i >= 1 && r < 230 ? row[i - 1] : r;
            default:
                return r;
        }
    }

    private static void fillEdges() {
        CodedDeltas x = new CodedDeltas();
        due.is("kind 3 in an empty row", x.fill(0, 3, 1, 0), 1);
        due.is("its first octet", x.octet(0, 0), 1013904223 >>> 24);
        due.is("kind 3 behind one octet", x.fill(0, 3, 1, 0), 2);
        due.is("as the one before it", x.octet(0, 1), x.octet(0, 0));
        Rows.set(x, 1, 9, 2, 3, 4, 5, 6, 7, 8, 9, 10, 11, 12, 13, 14, 15, 16);
        x.fill(1, 2, 2, 0);
        due.is("kind 2 behind 16 octets", x.octet(1, 16), 1013904223 >>> 24);
        due.is("kind 2 behind 17 octets", x.octet(1, 17), 9);
        due.is("no row", x.fill(4, 0, 1, 1), -2);
        due.is("no row", x.fill(-1, 0, 1, 1), -2);
        due.is("kind 4", x.fill(0, 4, 1, 1), -2);
        due.is("kind -1", x.fill(0, -1, 1, 1), -2);
        due.is("n -1", x.fill(0, 0, -1, 1), -2);
        due.is("n least", x.fill(0, 0, Integer.MIN_VALUE, 1), -2);
        due.is("too many", x.fill(0, 0, 4000, 1), -4);
        due.is("too many", x.fill(0, 0, Integer.MAX_VALUE, 1), -4);
        due.is("-2 before -4", x.fill(0, 7, 4000, 1), -2);
        due.is("nothing changed", x.length(0), 2);
        due.is("the rest", x.fill(0, 0, 3998, 1), 4000);
    }

    private static void copy() {
        CodedDeltas x = new CodedDeltas();
        Rows.set(x, 0, 10, 11, 12, 13, 14);
        due.is("to another", x.copy(0, 1, 3, 2), 3);
        due.is("to itself", x.copy(0, 3, 2, 0), 7);
        due.is("all to itself", x.copy(0, 0, 7, 0), 14);
        int[] want = {10, 11, 12, 13, 14, 13, 14};
        for (int i = 0; i < 14; i++) {
            due.is("copied " + i, x.octet(0, i), want[i % 7]);
        }
        for (int i = 0; i < 3; i++) {
            due.is("in the other " + i, x.octet(2, i), 11 + i);
        }
    }

    private static void copyEdges() {
        CodedDeltas x = new CodedDeltas();
        Rows.set(x, 0, 10, 11, 12, 13, 14);
        due.is("none from the end", x.copy(0, 5, 0, 1), 0);
        due.is("none from behind the end", x.copy(0, 6, 0, 1), -2);
        due.is("one too many", x.copy(0, 3, 3, 1), -2);
        due.is("from -1", x.copy(0, -1, 1, 1), -2);
        due.is("n -1", x.copy(0, 2, -1, 1), -2);
        due.is("large", x.copy(0, Integer.MAX_VALUE, Integer.MAX_VALUE, 1), -2);
        due.is("large", x.copy(0, 1, Integer.MAX_VALUE, 1), -2);
        due.is("no row", x.copy(4, 0, 0, 1), -2);
        due.is("no row", x.copy(0, 0, 0, 4), -2);
        due.is("no row", x.copy(-1, 0, 0, -1), -2);
        x.fill(1, 0, 3996, 1);
        due.is("no room", x.copy(0, 0, 5, 1), -4);
        due.is("-2 before -4", x.copy(0, 1, 5, 1), -2);
        due.is("nothing changed", x.length(1), 3996);
        due.is("just room", x.copy(0, 0, 4, 1), 4000);
        x.fill(2, 0, 8000, 1);
        due.is("more than the other row holds", x.copy(2, 0, 4001, 0), -4);
        due.is("a full row to itself", x.copy(2, 0, 1, 2), -4);
    }

    private static void alterAndCut() {
        CodedDeltas x = new CodedDeltas();
        Rows.set(x, 3, 10, 11, 12);
        due.is("alter", x.alter(3, 1, 255), 11);
        due.is("alter", x.alter(3, 1, 0), 255);
        due.is("altered", x.octet(3, 1), 0);
        due.is("v 256", x.alter(3, 1, 256), -2);
        due.is("v -1", x.alter(3, 1, -1), -2);
        due.is("none", x.alter(3, 3, 1), -1);
        due.is("none", x.alter(3, -1, 1), -1);
        due.is("-1 before -2", x.alter(3, 3, 256), -1);
        due.is("no row", x.alter(4, 0, 1), -1);
        due.is("no row", x.alter(-1, 0, 999), -1);
        due.is("nothing changed", x.octet(3, 1), 0);
        due.is("cut 4", x.cut(3, 4), -2);
        due.is("cut -1", x.cut(3, -1), -2);
        due.is("no row", x.cut(4, 0), -2);
        due.is("no row", x.cut(-1, 0), -2);
        due.is("cut all", x.cut(3, 3), 3);
        due.is("cut 1", x.cut(3, 1), 3);
        due.is("length", x.length(3), 1);
        due.is("gone", x.octet(3, 1), -1);
        due.is("gone", x.alter(3, 1, 1), -1);
        due.is("cut 0", x.cut(3, 0), 1);
        due.is("length", x.length(3), 0);
    }
}
