/** Promises 9 to 11: the tables. */
public final class TablesTest {
    private static final Due due = new Due("TablesTest");

    private TablesTest() {
    }

    public static void main(String[] args) {
        firstTable();
        tableOctet();
        caches();
        right();
        due.end();
    }

    private static void part(CodedDeltas x, int code, int part, int kind, int size, int mode) {
        String what = "code " + code + " part " + part;
        due.is(what + " kind", x.code(0, 256 * part + code), kind);
        due.is(what + " size", x.code(0, 512 + 256 * part + code), size);
        due.is(what + " mode", x.code(0, 1024 + 256 * part + code), mode);
    }

    private static void firstTable() {
        CodedDeltas x = new CodedDeltas();
        int code = 0;
        part(x, code++, 0, 2, 0, 0);
        for (int size = 0; size <= 17; size++) {
            part(x, code++, 0, 1, size, 0);
        }
        for (int mode = 0; mode <= 8; mode++) {
            part(x, code++, 0, 3, 0, mode);
            for (int size = 4; size <= 18; size++) {
                part(x, code++, 0, 3, size, mode);
            }
        }
        for (int i = 0; i < code; i++) {
            part(x, i, 1, 0, 0, 0);
        }
        for (int mode = 0; mode <= 5; mode++) {
            for (int size = 1; size <= 4; size++) {
                for (int copied = 4; copied <= 6; copied++) {
                    part(x, code, 0, 1, size, 0);
                    part(x, code++, 1, 3, copied, mode);
                }
            }
        }
        for (int mode = 6; mode <= 8; mode++) {
            for (int size = 1; size <= 4; size++) {
                part(x, code, 0, 1, size, 0);
                part(x, code++, 1, 3, 4, mode);
            }
        }
        for (int mode = 0; mode <= 8; mode++) {
            part(x, code, 0, 3, 4, mode);
            part(x, code++, 1, 1, 1, 0);
        }
        due.is("codes in all", code, 256);
        due.is("right", x.code(0, -1), 1);
        due.is("behind", x.code(0, 1536), -1);
        due.is("before", x.code(0, -2), -1);
        due.is("no table", x.code(2, 0), -1);
        due.is("no table", x.code(-1, -1), -1);
    }

    private static void tableOctet() {
        CodedDeltas x = new CodedDeltas();
        due.is("was", x.tableOctet(0, 1), 2);
        due.is("was", x.tableOctet(0, 255), 1);
        due.is("is", x.code(1, 0), 255);
        due.is("the first one stays", x.code(0, 0), 2);
        due.is("last", x.tableOctet(1535, 9), 0);
        due.is("is", x.code(1, 1535), 9);
        due.is("none", x.tableOctet(1536, 0), -1);
        due.is("none", x.tableOctet(-1, 0), -1);
        due.is("v 256", x.tableOctet(3, 256), -2);
        due.is("v -1", x.tableOctet(3, -1), -2);
        due.is("-1 before -2", x.tableOctet(1536, 256), -1);
        due.is("nothing changed", x.code(1, 3), 1);
    }

    private static void caches() {
        CodedDeltas x = new CodedDeltas();
        due.is("least", x.caches(0, 0), 1);
        due.is("most", x.caches(8, 4), 1);
        due.is("near 9", x.caches(9, 0), -2);
        due.is("near -1", x.caches(-1, 0), -2);
        due.is("same 5", x.caches(0, 5), -2);
        due.is("same -1", x.caches(0, -1), -2);
    }

    private static void right() {
        CodedDeltas x = new CodedDeltas();
        due.is("modes up to 8", x.caches(4, 2), 1);
        due.is("mode 8 of 8", x.code(1, -1), 0);
        due.is("modes up to 8", x.caches(8, 0), 1);
        due.is("refused, stays", x.caches(9, 0), -2);
        due.is("mode 9 of 10", x.code(1, -1), 1);
        x.tableOctet(511, 4);
        due.is("a part 4", x.code(1, -1), 0);
        due.is("the first one", x.code(0, -1), 1);
        x.tableOctet(511, 3);
        x.tableOctet(1535, 9);
        due.is("a second part's mode 9 of 10", x.code(1, -1), 1);
        x.tableOctet(1535, 10);
        due.is("a second part's mode 10 of 10", x.code(1, -1), 0);
        x.tableOctet(511, 1);
        due.is("a mode of ADD", x.code(1, -1), 1);
        x.tableOctet(511, 0);
        x.tableOctet(1023, 200);
        due.is("a mode and a size of nothing", x.code(1, -1), 1);
        x.caches(0, 0);
        due.is("too few modes", x.code(1, -1), 0);
        x.caches(0, 4);
        due.is("too few modes", x.code(1, -1), 0);
        x.caches(3, 4);
        due.is("just enough", x.code(1, -1), 1);
    }
}
