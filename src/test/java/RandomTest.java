import java.util.Arrays;
import java.util.List;
import java.util.Random;

/** Promises 12 to 16, and 2 to 11 on the way: the program held against the plain reference. */
public final class RandomTest {
    private static final Due due = new Due("RandomTest");
    private static final int ROUNDS = Integer.getInteger("rounds", 400);

    private RandomTest() {
    }

    public static void main(String[] args) {
        for (int seed = 1; seed <= ROUNDS && due.allRight(); seed++) {
            new Round(seed).run();
        }
        due.end();
    }

    /** One object and the rows that it is held to have. */
    private static final class Round {
        final Random random;
        final String name;
        final CodedDeltas x = new CodedDeltas();
        int[][] rows = {{}, {}, {}, {}};
        Reference.Codes own = Reference.Codes.first();
        List<int[]> steps = List.of();
        int[] told = new int[4];

        Round(int seed) {
            random = new Random(seed);
            name = "seed " + seed + " ";
        }

        void run() {
            for (int i = 0; i < 6; i++) {
                setRow(0, row());
                setRow(1, random.nextInt(3) == 0 ? row() : variant(rows[0]));
                if (random.nextInt(2) == 0) {
                    alterTable();
                }
                write();
                if (random.nextInt(3) == 0) {
                    damage(2);
                }
                read();
                join();
                check();
            }
        }

        void setRow(int row, int[] octets) {
            rows[row] = octets.clone();
            x.feed(row, 0, 0);
            for (int i = 0; i < octets.length; i += 8) {
                long v = 0;
                int n = Math.min(8, octets.length - i);
                for (int k = 0; k < n; k++) {
                    v = v << 8 | octets[i + k];
                }
                x.feed(row, v, n);
            }
            due.is(name + "length of row " + row, x.length(row), octets.length);
        }

        int[] row() {
            int n = random.nextInt(random.nextInt(4) == 0 ? 1500 : 200);
            int[] octets = new int[n];
            int letters = new int[] {1, 2, 4, 256}[random.nextInt(4)];
            int repeats = random.nextInt(4) * 30;
            for (int i = 0; i < n; i++) {
                int back = 1 + random.nextInt(20);
                boolean again = i >= back && random.nextInt(100) < repeats;
                octets[i] = again ? octets[i - (repeats == 90 ? 1 : back)] : random.nextInt(letters);
            }
            return octets;
        }

        int[] variant(int[] octets) {
            int[] made = {};
            for (int i = 0; i < 1 + random.nextInt(8) && made.length < 1500; i++) {
                int from = octets.length == 0 ? 0 : random.nextInt(octets.length);
                int until = from + random.nextInt(octets.length - from + 1);
                int[] between = random.nextInt(2) == 0 ? new int[random.nextInt(12)] : Arrays.copyOf(row(), random.nextInt(4));
                made = Rows.join(made, Arrays.copyOfRange(octets, from, until), between);
            }
            return made;
        }

        void alterTable() {
            int near = random.nextInt(9);
            int same = random.nextInt(5);
            int[] string = own.string.clone();
            int modes = near + same + 2;
            for (int i = 0; i < 40; i++) {
                int code = random.nextInt(256);
                for (int part = code; part < 512; part += 256) {
                    string[part] = random.nextInt(4);
                    string[512 + part] = random.nextInt(3) == 0 ? 0 : random.nextInt(12);
                    string[1024 + part] = random.nextInt(modes);
                }
            }
            for (int part = 0; part < 512 && random.nextInt(200) > 0; part++) {
                string[1024 + part] = Math.min(string[1024 + part], modes - 1);
            }
            for (int i = 0; i < 1536; i++) {
                if (string[i] != own.string[i]) {
                    due.is(name + "tableOctet", x.tableOctet(i, string[i]), own.string[i]);
                }
            }
            x.caches(near, same);
            own = new Reference.Codes(string, near, same);
            due.is(name + "right", x.code(1, -1), own.right() ? 1 : 0);
        }

        void write() {
            int way = random.nextInt(3);
            int by = random.nextInt(3);
            int window = random.nextInt(2) == 0 ? 4000 : 50 + random.nextInt(200);
            boolean withOwn = random.nextInt(2) == 0;
            int got = x.write(way, by, window, withOwn);
            if (withOwn && !own.right()) {
                due.is(name + "write with a wrong table", got, -2);
            } else {
                Reference.Written w = Reference.write(rows[0], rows[1], way, by, window, withOwn ? own : null);
                due.is(name + "write(" + way + ", " + by + ", " + window + ", " + withOwn + ")", got, w.answer);
                take(w);
            }
            check();
        }

        void take(Reference.Written w) {
            if (w.answer >= 0) {
                rows[2] = w.delta;
                steps = w.steps;
            }
        }

        void damage(int row) {
            int[] octets = rows[row].clone();
            for (int i = random.nextInt(3); i >= 0 && octets.length > 0; i--) {
                int at = random.nextInt(random.nextInt(3) == 0 ? octets.length : Math.min(octets.length, 40));
                octets[at] = random.nextBoolean() ? random.nextInt(256) : octets[at] + 1 & 255;
            }
            if (random.nextInt(4) == 0) {
                octets = Arrays.copyOf(octets, random.nextInt(octets.length + 1));
            }
            setRow(row, octets);
        }

        void read() {
            Reference.Read r = Reference.read(rows[0], rows[2]);
            int got = x.read();
            due.is(name + "read", got, r.fault == 0 ? r.made.size() : -10 - r.fault);
            tell(r);
            steps = r.steps;
            if (r.fault == 0) {
                rows[1] = Reference.array(r.made);
            }
            check();
        }

        void tell(Reference.Read r) {
            told = new int[] {r.fault, r.place, r.windows, r.steps.size()};
        }

        /** SECOND is written from what DELTA makes to a variant of it. */
        void join() {
            if (Reference.read(rows[0], rows[2]).fault == 0) {
                int[] source = rows[0];
                int[] delta = rows[2];
                int[] middle = rows[1];
                setRow(0, middle);
                setRow(1, variant(middle));
                write();
                setRow(3, rows[2]);
                setRow(0, source);
                setRow(2, delta);
                if (random.nextInt(4) == 0) {
                    damage(3);
                }
            }
            Reference.Read first = Reference.read(rows[0], rows[2]);
            Reference.Read last = first.fault != 0 ? first : Reference.read(Reference.array(first.made), rows[3]);
            int got = x.join();
            tell(last);
            if (last.fault != 0) {
                due.is(name + "join", got, -10 - last.fault);
                steps = last.steps;
            } else {
                Reference.Written w = Reference.join(rows[0], first, last);
                due.is(name + "join", got, w.answer);
                take(w);
                due.isTrue(name + "joined makes the same",
                        Reference.read(rows[0], rows[2]).made.equals(last.made));
            }
            check();
        }

        void check() {
            for (int row = 0; row < 4; row++) {
                due.isTrue(name + "row " + row, Arrays.equals(Rows.get(x, row), rows[row]));
            }
            for (int what = 0; what < 4; what++) {
                due.is(name + "told(" + what + ")", x.told(what), told[what]);
            }
            for (int k = 0; k <= steps.size(); k++) {
                for (int what = 0; what < 6; what++) {
                    int want = k < steps.size() && k < 4000 ? steps.get(k)[what] : -1;
                    due.is(name + "instruction(" + k + ", " + what + ")", x.instruction(k, what), want);
                }
            }
        }
    }
}
