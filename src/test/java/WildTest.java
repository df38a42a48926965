import java.util.Random;

/** No call may throw or fail to end, for any arguments in any state. */
public final class WildTest {
    private static final Due due = new Due("WildTest");
    private static final int[] EDGES = {Integer.MIN_VALUE, Integer.MIN_VALUE + 1, -4001, -257, -2, -1, 0, 1, 2, 3, 4, 5,
        8, 9, 17, 49, 50, 51, 127, 128, 255, 256, 1535, 1536, 3999, 4000, 4001, 7999, 8000, 8001,
        Integer.MAX_VALUE - 1, Integer.MAX_VALUE};

    private WildTest() {
    }

    public static void main(String[] args) {
        for (int seed = 1; seed <= 300; seed++) {
            calls(new Random(seed), new CodedDeltas());
        }
        alterEachOctet();
        fullRows();
        due.end();
    }

    private static int any(Random random) {
        int kind = random.nextInt(8);
        if (kind == 0) {
            return EDGES[random.nextInt(EDGES.length)];
        }
        return kind < 5 ? random.nextInt(4) : kind < 7 ? random.nextInt(300) : random.nextInt(9000) - 300;
    }

    private static void calls(Random random, CodedDeltas x) {
        for (int i = 0; i < 512; i++) {
            int answer = call(random, x);
            due.isTrue("an answer " + answer, answer >= -28);
        }
        for (int row = 0; row < 4; row++) {
            for (int i = 0; i < x.length(row); i++) {
                due.isTrue("an octet", x.octet(row, i) >= 0 && x.octet(row, i) <= 255);
            }
        }
    }

    private static int call(Random random, CodedDeltas x) {
        switch (random.nextInt(15)) {
            case 0:
                return x.feed(any(random), random.nextLong(), any(random));
            case 1:
                return x.fill(any(random), any(random), any(random), random.nextInt());
            case 2:
                return x.copy(any(random), any(random), any(random), any(random));
            case 3:
                return x.alter(random.nextInt(3) == 0 ? any(random) : 2, random.nextInt(60), any(random));
            case 4:
                return x.cut(any(random), any(random));
            case 5:
                return x.length(any(random)) + x.octet(any(random), any(random));
            case 6:
                return x.tableOctet(any(random), any(random));
            case 7:
                return x.caches(any(random), any(random));
            case 8:
                return x.code(any(random), any(random));
            case 9:
                return x.write(any(random), any(random), any(random), random.nextBoolean());
            case 10:
                return x.write(random.nextInt(3), random.nextInt(3), 50 + random.nextInt(3951), random.nextBoolean());
            case 11:
                return x.read();
            case 12:
                return x.join();
            case 13:
                return x.told(any(random));
            default:
                return x.instruction(any(random), any(random));
        }
    }

    /** Each octet of a DELTA with a table is altered in turn; every answer is one of the document's. */
    private static void alterEachOctet() {
        CodedDeltas x = new CodedDeltas();
        x.fill(Rows.SOURCE, 1, 300, 3);
        x.fill(Rows.TARGET, 3, 200, 4);
        x.copy(Rows.SOURCE, 40, 100, Rows.TARGET);
        x.tableOctet(7, 0);
        x.write(2, 1, 90, true);
        for (int i = 0; i < x.length(Rows.DELTA); i++) {
            for (int v : new int[] {0, 1, 2, 127, 128, 255}) {
                int before = x.alter(Rows.DELTA, i, v);
                int answer = x.read();
                boolean fault = answer <= -11 && answer >= -28;
                due.isTrue("octet " + i + " altered to " + v + ": " + answer, fault || answer >= 0);
                due.is("its fault is told", x.told(0), answer < 0 ? -10 - answer : 0);
                due.isTrue("its place is within", x.told(1) >= 0 && x.told(1) <= x.length(Rows.DELTA));
                x.alter(Rows.DELTA, i, before);
            }
        }
        for (int n = x.length(Rows.DELTA); n >= 0; n--) {
            x.cut(Rows.DELTA, n);
            due.isTrue("cut to " + n, x.read() >= -28);
        }
    }

    private static void fullRows() {
        for (int kind = 0; kind < 4; kind++) {
            CodedDeltas x = new CodedDeltas();
            x.fill(Rows.SOURCE, kind, 4000, 1);
            x.fill(Rows.TARGET, kind, 4000, 2);
            for (int way = 0; way < 3; way++) {
                for (int by = 0; by < 3; by++) {
                    for (int window : new int[] {50, 1000, 4000}) {
                        int size = x.write(way, by, window, (way + by) % 2 == 0);
                        due.isTrue("written", size > 0 && size == x.length(Rows.DELTA));
                        int octet = x.octet(Rows.TARGET, 3999);
                        due.is("read", x.read(), 4000);
                        due.is("its last octet", x.octet(Rows.TARGET, 3999), octet);
                    }
                }
            }
        }
    }
}
