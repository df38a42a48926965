/** Short ways to set OWN TABLE. */
final class Tables {
    static final int NOTHING = 0;
    static final int ADD = 1;
    static final int RUN = 2;
    static final int COPY = 3;

    private Tables() {
    }

    static void part(CodedDeltas x, int code, int part, int kind, int size, int mode) {
        x.tableOctet(256 * part + code, kind);
        x.tableOctet(512 + 256 * part + code, size);
        x.tableOctet(1024 + 256 * part + code, mode);
    }

    /** No code has a part. */
    static void clear(CodedDeltas x) {
        for (int i = 0; i < 1536; i++) {
            x.tableOctet(i, 0);
        }
    }

    /** Code 0 is RUN 0, code 1 ADD 0, and 10 + m is COPY 0 by MODE m, for all MODES that there are. */
    static void plain(CodedDeltas x, int near, int same) {
        clear(x);
        x.caches(near, same);
        part(x, 0, 0, RUN, 0, 0);
        part(x, 1, 0, ADD, 0, 0);
        for (int mode = 0; mode < near + same + 2; mode++) {
            part(x, 10 + mode, 0, COPY, 0, mode);
        }
    }

    /** DELTA tells OWN TABLE, and has these windows. */
    static void tell(CodedDeltas x, int[]... windows) {
        x.feed(Rows.TARGET, 0, 0);
        x.write(0, 0, 50, true);
        for (int octet : Rows.join(windows)) {
            x.feed(Rows.DELTA, octet, 1);
        }
    }
}
