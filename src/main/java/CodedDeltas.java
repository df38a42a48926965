import java.util.Arrays;

/**
 * What leads from one row of octets to another one: written, read strictly, and put one behind
 * the other. The document ../shared/DOC.md has the promises; the words used here are its words.
 */
public final class CodedDeltas {
    private static final int SOURCE = 0;
    private static final int TARGET = 1;
    private static final int DELTA = 2;
    private static final int SECOND = 3;
    private static final int ROWS = 4;
    private static final int SHORT_ROOM = 4000;
    private static final int LONG_ROOM = 8000;

    private static final int NONE = -1;
    private static final int OUTSIDE = -2;
    private static final int NO_ROOM = -4;
    private static final int NO_CODE = -5;
    private static final int FAULTY = -10;

    private static final int NOTHING = 0;
    private static final int ADD = 1;
    private static final int RUN = 2;
    private static final int COPY = 3;

    private static final int CODES = 256;
    private static final int STRING_SIZE = 6 * CODES;
    private static final int MOST_NEAR = 8;
    private static final int MOST_SAME = 4;

    private static final int NO_SEGMENT = 0;
    private static final int SOURCE_SEGMENT = 1;
    private static final int TARGET_SEGMENT = 2;
    private static final int MOST_WINDOWS = LONG_ROOM;
    private static final int MOST_TOLD = 4000;

    private static final int PLAIN = 0;
    private static final int WITH_TABLE = 2;

    private static final int LACKS = -1;
    private static final int NO_NUMBER = -2;
    private static final int MOST_NUMBER = 0x7FFFFFFF;
    private static final int MOST_NUMBER_SIZE = 5;
    private static final int MADE_OF_DATA = -1;

    private static final int LEAST_RUN = 6;
    private static final int LEAST_MATCH = 4;

    private static final int[] MARK = {214, 195, 196, 0};

    private final Row[] rows = new Row[ROWS];
    private final Row written = new Row(LONG_ROOM);
    private final Row writtenTable = new Row(SHORT_ROOM);
    private final Row middle = new Row(SHORT_ROOM);
    private final int[] middleOrigins = new int[SHORT_ROOM];
    private final Table firstTable = new Table();
    private final Table ownTable = new Table();
    private final Table foreignTable = new Table();
    private final Reader reader = new Reader(SHORT_ROOM);
    private final Reader tableReader = new Reader(STRING_SIZE);
    private final Writer writer = new Writer();
    // Two lists take turns, so that a refused call leaves the told one as it was.
    private Steps steps = new Steps(MOST_TOLD);
    private Steps spareSteps = new Steps(MOST_TOLD);
    private int toldFault;
    private int toldPlace;
    private int toldWindows;
    private int toldSteps;

    public CodedDeltas() {
        rows[SOURCE] = new Row(SHORT_ROOM);
        rows[TARGET] = new Row(SHORT_ROOM);
        rows[DELTA] = new Row(LONG_ROOM);
        rows[SECOND] = new Row(LONG_ROOM);
        firstTable.becomeFirst();
        firstTable.sortCodes();
        ownTable.becomeFirst();
    }

    public int feed(int row, long v, int n) {
        if (!isRow(row) || n < 0 || n > 8) {
            return OUTSIDE;
        }
        Row fed = rows[row];
        if (n == 0) {
            fed.makeEmpty();
            return 0;
        }
        if (n > fed.room()) {
            return NO_ROOM;
        }
        for (int i = n - 1; i >= 0; i--) {
            fed.put((int) (v >>> (8 * i)) & 255);
        }
        return fed.count;
    }

    public int fill(int row, int kind, int n, int seed) {
        if (!isRow(row) || kind < 0 || kind > 3 || n < 0) {
            return OUTSIDE;
        }
        Row filled = rows[row];
        if (n > filled.room()) {
            return NO_ROOM;
        }
        int z = seed;
        for (int i = 0; i < n; i++) {
            z = z * 1664525 + 1013904223;
            filled.put(ruled(filled, kind, z >>> 24));
        }
        return filled.count;
    }

    private static int ruled(Row row, int kind, int r) {
        int place = row.count;
        if (kind == 1) {
            return 97 + r % 4;
        }
        if (kind == 2 && place >= 17 && r < 240) {
            return row.at(place - 17);
        }
        if (kind == 3 && place >= 1 && r < 230) {
            return row.at(place - 1);
        }
        return r;
    }

    public int copy(int row, int from, int n, int to) {
        if (!isRow(row) || !isRow(to)) {
            return OUTSIDE;
        }
        if (from < 0 || n < 0 || (long) from + n > rows[row].count) {
            return OUTSIDE;
        }
        if (n > rows[to].room()) {
            return NO_ROOM;
        }
        for (int i = 0; i < n; i++) {
            rows[to].put(rows[row].at(from + i));
        }
        return rows[to].count;
    }

    public int alter(int row, int i, int v) {
        if (!isRow(row)) {
            return NONE;
        }
        return rows[row].replace(i, v);
    }

    public int cut(int row, int n) {
        if (!isRow(row) || n < 0 || n > rows[row].count) {
            return OUTSIDE;
        }
        int had = rows[row].count;
        rows[row].count = n;
        return had;
    }

    public int length(int row) {
        return isRow(row) ? rows[row].count : NONE;
    }

    public int octet(int row, int i) {
        return isRow(row) && rows[row].has(i) ? rows[row].at(i) : NONE;
    }

    public int tableOctet(int i, int v) {
        return ownTable.string.replace(i, v);
    }

    public int caches(int near, int same) {
        if (near < 0 || near > MOST_NEAR || same < 0 || same > MOST_SAME) {
            return OUTSIDE;
        }
        ownTable.near = near;
        ownTable.same = same;
        return 1;
    }

    public int code(int table, int i) {
        if (table < 0 || table > 1) {
            return NONE;
        }
        Table asked = table == 0 ? firstTable : ownTable;
        if (i == -1) {
            return asked.isRight() ? 1 : 0;
        }
        return asked.string.has(i) ? asked.string.at(i) : NONE;
    }

    public int write(int way, int by, int window, boolean own) {
        if (way < 0 || way > 2 || by < 0 || by > 2 || window < 50 || window > SHORT_ROOM) {
            return OUTSIDE;
        }
        if (own && !ownTable.isRight()) {
            return OUTSIDE;
        }
        if (own) {
            startWriting(writtenTable, PLAIN);
            writer.putWindows(firstTable, firstTable.string, ownTable.string, 1, SOURCE_SEGMENT, STRING_SIZE);
            ownTable.sortCodes();
        }
        startWriting(written, own ? WITH_TABLE : PLAIN);
        if (own) {
            putTableData();
        }
        writer.putWindows(own ? ownTable : firstTable, rows[SOURCE], rows[TARGET], way, by, window);
        if (writer.codeLacks) {
            return NO_CODE;
        }
        return written.overfull ? NO_ROOM : takeWritten();
    }

    private void startWriting(Row row, int kind) {
        row.makeEmpty();
        row.putMark(kind);
        spareSteps.makeEmpty();
        writer.begin(row, spareSteps);
    }

    private void putTableData() {
        written.putNumber(2 + writtenTable.count);
        written.put(ownTable.near);
        written.put(ownTable.same);
        written.putAll(writtenTable);
    }

    private int takeWritten() {
        rows[DELTA].makeEmpty();
        rows[DELTA].putAll(written);
        tellSpareSteps();
        return rows[DELTA].count;
    }

    private void tellSpareSteps() {
        Steps before = steps;
        steps = spareSteps;
        spareSteps = before;
    }

    public int read() {
        readFrom(rows[SOURCE], rows[DELTA]);
        tellReading(spareSteps.count);
        tellSpareSteps();
        if (reader.fault != 0) {
            return FAULTY - reader.fault;
        }
        rows[TARGET].makeEmpty();
        rows[TARGET].putAll(reader.made);
        return rows[TARGET].count;
    }

    private void readFrom(Row source, Row delta) {
        spareSteps.makeEmpty();
        reader.begin(source, delta, 0, delta.count, spareSteps);
        reader.takeMark();
        Table table = firstTable;
        if (reader.takeKind() == WITH_TABLE) {
            int size = startTable(delta);
            tableReader.readWindows(firstTable);
            endTable(size);
            table = foreignTable;
        }
        reader.readWindows(table);
    }

    /** Answers how many octets the DELTA of the table has, which tableReader then reads. */
    private int startTable(Row delta) {
        int size = reader.takeTableHead(foreignTable);
        int from = reader.field.at;
        tableReader.begin(firstTable.string, delta, from, from + size, spareSteps);
        tableReader.takeMark();
        tableReader.takeNoTable();
        return size;
    }

    private void endTable(int size) {
        spareSteps.makeEmpty();
        foreignTable.string.makeEmpty();
        foreignTable.string.putAll(tableReader.made);
        boolean whole = tableReader.fault == 0 && foreignTable.string.count == STRING_SIZE;
        reader.skipTable(size, whole && foreignTable.isRight());
    }

    private void tellReading(int instructions) {
        toldFault = reader.fault;
        toldPlace = reader.place;
        toldWindows = reader.windows;
        toldSteps = instructions;
    }

    public int join() {
        readFrom(rows[SOURCE], rows[DELTA]);
        if (reader.fault == 0) {
            middle.makeEmpty();
            middle.putAll(reader.made);
            System.arraycopy(reader.origins, 0, middleOrigins, 0, middle.count);
            readFrom(middle, rows[SECOND]);
        }
        int instructions = spareSteps.count;
        if (reader.fault != 0) {
            tellReading(instructions);
            tellSpareSteps();
            return FAULTY - reader.fault;
        }
        reader.traceBack(middleOrigins, middle.count);
        startWriting(written, PLAIN);
        writer.putTraced(firstTable, rows[SOURCE].count, reader.made, reader.origins);
        if (written.overfull) {
            return NO_ROOM;
        }
        tellReading(instructions);
        return takeWritten();
    }

    public int told(int what) {
        switch (what) {
            case 0:
                return toldFault;
            case 1:
                return toldPlace;
            case 2:
                return toldWindows;
            case 3:
                return toldSteps;
            default:
                return OUTSIDE;
        }
    }

    public int instruction(int k, int what) {
        if (!steps.has(k)) {
            return NONE;
        }
        return what < 0 || what >= Steps.WIDTH ? OUTSIDE : steps.at(k, what);
    }

    private static boolean isRow(int row) {
        return row >= 0 && row < ROWS;
    }

    private static int numberSize(int v) {
        int size = 1;
        while (size < MOST_NUMBER_SIZE && v >>> 7 * size != 0) {
            size++;
        }
        return size;
    }

    /** Octets one behind the other, up to a limit; what comes beyond it is only noted. */
    private static final class Row {
        final int[] octets;
        int count;
        boolean overfull;

        Row(int room) {
            octets = new int[Math.max(room, 0)];
        }

        void makeEmpty() {
            count = 0;
            overfull = false;
        }

        int room() {
            return octets.length - count;
        }

        boolean has(int i) {
            return i >= 0 && i < count;
        }

        int at(int i) {
            return i >= 0 && i < count ? octets[i] : 0;
        }

        int replace(int i, int v) {
            if (!has(i)) {
                return NONE;
            }
            if (v < 0 || v > 255) {
                return OUTSIDE;
            }
            int before = octets[i];
            octets[i] = v;
            return before;
        }

        void put(int v) {
            if (count < octets.length) {
                octets[count] = v;
                count++;
            } else {
                overfull = true;
            }
        }

        void putNumber(int v) {
            for (int shift = 7 * (numberSize(v) - 1); shift > 0; shift -= 7) {
                put(128 | (v >>> shift & 127));
            }
            put(v & 127);
        }

        void putMark(int kind) {
            for (int i = 0; i < MARK.length; i++) {
                put(MARK[i]);
            }
            put(kind);
        }

        void putAll(Row other) {
            int n = Math.min(other.count, room());
            System.arraycopy(other.octets, 0, octets, count, n);
            count += n;
            overfull = overfull || n < other.count || other.overfull;
        }
    }

    /** 256 codes as their STRING, with NEAR and SAME. */
    private static final class Table {
        static final int SIZES = 2 * CODES;
        static final int MODES = 4 * CODES;

        final Row string = new Row(STRING_SIZE);
        int near;
        int same;
        // Codes by what their first part is: so that writing looks at few of the 256.
        final int[] heads = new int[CODES];
        final int[] nexts = new int[CODES];

        int kindOf(int code, int part) {
            return string.at(part * CODES + code);
        }

        int sizeOf(int code, int part) {
            return string.at(SIZES + part * CODES + code);
        }

        int modeOf(int code, int part) {
            return string.at(MODES + part * CODES + code);
        }

        boolean isRight() {
            for (int i = 0; i < 2 * CODES; i++) {
                int kind = string.at(i);
                if (kind > COPY || kind == COPY && string.at(MODES + i) >= near + same + 2) {
                    return false;
                }
            }
            return true;
        }

        void becomeFirst() {
            near = 4;
            same = 3;
            string.count = STRING_SIZE;
            Arrays.fill(string.octets, 0);
            setPart(0, 0, RUN, 0, 0);
            for (int size = 0; size <= 17; size++) {
                setPart(1 + size, 0, ADD, size, 0);
            }
            int code = 19;
            for (int mode = 0; mode <= 8; mode++) {
                setPart(code, 0, COPY, 0, mode);
                for (int size = 4; size <= 18; size++) {
                    setPart(code + size - 3, 0, COPY, size, mode);
                }
                code += 16;
            }
            setFirstPairs(code);
        }

        private void setFirstPairs(int from) {
            int code = from;
            for (int mode = 0; mode <= 8; mode++) {
                int longest = mode <= 5 ? 6 : 4;
                for (int added = 1; added <= 4; added++) {
                    for (int size = 4; size <= longest; size++) {
                        setPart(code, 0, ADD, added, 0);
                        setPart(code, 1, COPY, size, mode);
                        code++;
                    }
                }
            }
            for (int mode = 0; mode <= 8; mode++) {
                setPart(code, 0, COPY, 4, mode);
                setPart(code, 1, ADD, 1, 0);
                code++;
            }
        }

        private void setPart(int code, int part, int kind, int size, int mode) {
            string.replace(part * CODES + code, kind);
            string.replace(SIZES + part * CODES + code, size);
            string.replace(MODES + part * CODES + code, mode);
        }

        void sortCodes() {
            Arrays.fill(heads, NONE);
            // From the last one on, so that each chain begins with its least code.
            for (int code = CODES - 1; code >= 0; code--) {
                int chain = chainOf(kindOf(code, 0), sizeOf(code, 0), modeOf(code, 0));
                nexts[code] = heads[chain];
                heads[chain] = code;
            }
        }

        private static int chainOf(int kind, int size, int mode) {
            return (kind == COPY ? 64 + size + 19 * mode : 128 * kind + size) & (CODES - 1);
        }

        /** The least code for instruction k and the one behind it; below 0: none. */
        int pairFor(Steps steps, int k) {
            int kind = steps.at(k, Steps.KIND);
            int size = steps.at(k, Steps.SIZE);
            int mode = steps.at(k, Steps.MODE);
            int nextKind = steps.at(k + 1, Steps.KIND);
            int nextSize = steps.at(k + 1, Steps.SIZE);
            int nextMode = steps.at(k + 1, Steps.MODE);
            int code = heads[chainOf(kind, size, mode)];
            for (int i = 0; i < CODES && code >= 0; i++) {
                if (fits(code, 1, nextKind, nextSize, nextMode) && fits(code, 0, kind, size, mode)) {
                    return code;
                }
                code = nexts[code];
            }
            return NONE;
        }

        /** The least code for one instruction alone, its size being told by the code or 0. */
        int singleFor(int kind, int size, int mode) {
            int code = heads[chainOf(kind, size, mode)];
            for (int i = 0; i < CODES && code >= 0; i++) {
                if (kindOf(code, 1) == NOTHING && fits(code, 0, kind, size, mode)) {
                    return code;
                }
                code = nexts[code];
            }
            return NONE;
        }

        private boolean fits(int code, int part, int kind, int size, int mode) {
            return kindOf(code, part) == kind && sizeOf(code, part) == size
                    && (kind != COPY || modeOf(code, part) == mode);
        }
    }

    /** Instructions that are told; beyond the limit they are only counted. */
    private static final class Steps {
        static final int WIDTH = 6;
        static final int KIND = 0;
        static final int SIZE = 1;
        static final int ADDRESS = 2;
        static final int MODE = 3;
        static final int CODE = 4;
        static final int WINDOW = 5;

        final int limit;
        final int[] cells;
        int count;

        Steps(int most) {
            limit = Math.max(most, 0);
            cells = new int[limit * WIDTH];
        }

        void makeEmpty() {
            count = 0;
        }

        boolean has(int k) {
            return k >= 0 && k < count && k < limit;
        }

        int at(int k, int what) {
            return has(k) && what >= 0 && what < WIDTH ? cells[k * WIDTH + what] : 0;
        }

        void put(int kind, int size, int address, int mode, int code, int window) {
            if (count < limit) {
                int from = count * WIDTH;
                cells[from + KIND] = kind;
                cells[from + SIZE] = size;
                cells[from + ADDRESS] = address;
                cells[from + MODE] = mode;
                cells[from + CODE] = code;
                cells[from + WINDOW] = window;
            }
            count++;
        }

        void setCode(int k, int code) {
            if (has(k)) {
                cells[k * WIDTH + CODE] = code;
            }
        }
    }

    /** The near and the same addresses of one window. */
    private static final class Caches {
        final int[] nearOnes = new int[MOST_NEAR];
        final int[] sameOnes = new int[MOST_SAME * 256];
        int near;
        int same;
        int next;

        void begin(Table table) {
            near = Math.max(0, Math.min(table.near, MOST_NEAR));
            same = Math.max(0, Math.min(table.same, MOST_SAME));
            next = 0;
            Arrays.fill(nearOnes, 0);
            Arrays.fill(sameOnes, 0);
        }

        boolean isSameMode(int mode) {
            return mode >= near + 2;
        }

        int nearOne(int mode) {
            int i = mode - 2;
            return i >= 0 && i < near ? nearOnes[i] : 0;
        }

        int sameOne(int mode, int b) {
            int i = 256 * (mode - near - 2) + b;
            return i >= 0 && i < 256 * same ? sameOnes[i] : 0;
        }

        /** The least MODE of those that tell an address in the fewest octets. */
        int cheapestMode(int address, int here) {
            int best = 0;
            int size = numberSize(address);
            if (numberSize(here - address) < size) {
                best = 1;
                size = numberSize(here - address);
            }
            for (int i = 0; i < near; i++) {
                int ahead = address - nearOnes[i];
                if (ahead >= 0 && numberSize(ahead) < size) {
                    best = 2 + i;
                    size = numberSize(ahead);
                }
            }
            // Only address 0 may stand in other places too, and MODE 0 tells it as short.
            if (size > 1 && same > 0 && sameOnes[address % (256 * same)] == address) {
                best = near + 2 + address % (256 * same) / 256;
            }
            return best;
        }

        void putAddress(Row row, int mode, int address, int here) {
            if (mode == 0) {
                row.putNumber(address);
            } else if (mode == 1) {
                row.putNumber(here - address);
            } else if (isSameMode(mode)) {
                row.put(address & 255);
            } else {
                row.putNumber(address - nearOne(mode));
            }
        }

        void keep(int address) {
            if (near > 0) {
                nearOnes[next] = address;
                next = next + 1 < near ? next + 1 : 0;
            }
            if (same > 0) {
                sameOnes[address % (256 * same)] = address;
            }
        }
    }

    /** A part of a row that is taken octet by octet. */
    private static final class Cursor {
        private int[] octets = new int[0];
        int at;
        int end;

        void set(Row row, int from, int until) {
            octets = row.octets;
            at = Math.max(from, 0);
            end = Math.min(until, row.count);
        }

        int left() {
            return end - at;
        }

        int nextOctet() {
            if (at >= end) {
                return LACKS;
            }
            int v = octets[at];
            at++;
            return v;
        }

        int nextNumber() {
            long v = 0;
            for (int i = 0; i < MOST_NUMBER_SIZE; i++) {
                int octet = nextOctet();
                if (octet < 0) {
                    return LACKS;
                }
                v = v * 128 + (octet & 127);
                if (octet < 128) {
                    return v > MOST_NUMBER ? NO_NUMBER : (int) v;
                }
            }
            return NO_NUMBER;
        }
    }

    /**
     * Reads a DELTA strictly. Behind the first fault every taking answers 0 and every further
     * fault is passed over, so that fields can be taken one behind the other.
     */
    private static final class Reader {
        final Row made;
        // For each octet made: its place in the source, or MADE_OF_DATA.
        final int[] origins;
        final Cursor field = new Cursor();
        final Cursor data = new Cursor();
        final Cursor codes = new Cursor();
        final Cursor addresses = new Cursor();
        final Caches nears = new Caches();
        Row source;
        Row delta;
        Steps steps;
        int fault;
        int place;
        int windows;
        int segmentKind;
        int segmentSize;
        int segmentFrom;
        int windowFrom;
        int windowEnd;

        Reader(int room) {
            made = new Row(room);
            origins = new int[Math.max(room, 0)];
            // Until begin() sets them these stand for nothing, so that none is ever null.
            source = made;
            delta = made;
            steps = new Steps(0);
        }

        void begin(Row from, Row read, int at, int end, Steps list) {
            source = from;
            delta = read;
            steps = list;
            field.set(read, at, end);
            made.makeEmpty();
            fault = 0;
            place = 0;
            windows = 0;
        }

        private void fail(int which, int where) {
            if (fault == 0) {
                fault = which;
                place = where;
            }
        }

        private int takeOctet() {
            int v = fault == 0 ? field.nextOctet() : 0;
            if (v < 0) {
                fail(1, field.end);
            }
            return Math.max(v, 0);
        }

        private int takeNumber() {
            int from = field.at;
            int v = fault == 0 ? field.nextNumber() : 0;
            if (v == LACKS) {
                fail(1, field.end);
            } else if (v == NO_NUMBER) {
                fail(4, from);
            }
            return Math.max(v, 0);
        }

        void takeMark() {
            for (int i = 0; i < MARK.length; i++) {
                int from = field.at;
                if (takeOctet() != MARK[i]) {
                    fail(2, from);
                }
            }
        }

        int takeKind() {
            int from = field.at;
            int kind = takeOctet();
            if (kind != PLAIN && kind != WITH_TABLE) {
                fail(3, from);
            }
            return kind;
        }

        void takeNoTable() {
            int from = field.at;
            if (takeOctet() != PLAIN) {
                fail(3, from);
            }
        }

        /** NEAR and SAME of a table that is told; answers how many octets its DELTA has. */
        int takeTableHead(Table table) {
            int from = field.at;
            int size = takeNumber();
            if (size < 2) {
                fail(18, from);
            }
            from = field.at;
            table.near = takeOctet();
            if (table.near > MOST_NEAR) {
                fail(18, from);
            }
            from = field.at;
            table.same = takeOctet();
            if (table.same > MOST_SAME) {
                fail(18, from);
            }
            if (size - 2 > field.left()) {
                fail(1, field.end);
            }
            return fault == 0 ? size - 2 : 0;
        }

        void skipTable(int size, boolean right) {
            if (!right) {
                fail(18, field.at);
            }
            field.at += size;
        }

        void readWindows(Table table) {
            for (int i = 0; i < MOST_WINDOWS && fault == 0 && field.left() > 0; i++) {
                nears.begin(table);
                takeSegment();
                takeSizes();
                int most = fault == 0 ? codes.left() : 0;
                for (int k = 0; k < most && fault == 0 && codes.left() > 0; k++) {
                    int where = codes.at;
                    int code = codes.nextOctet();
                    runPart(table, code, 0, where);
                    runPart(table, code, 1, where);
                }
                endWindow();
            }
        }

        private void takeSegment() {
            int from = field.at;
            segmentKind = takeOctet();
            segmentSize = 0;
            segmentFrom = 0;
            if (segmentKind > TARGET_SEGMENT) {
                fail(5, from);
            }
            if (segmentKind == NO_SEGMENT) {
                return;
            }
            segmentSize = takeNumber();
            from = field.at;
            segmentFrom = takeNumber();
            int there = segmentKind == SOURCE_SEGMENT ? source.count : made.count;
            if ((long) segmentFrom + segmentSize > there) {
                fail(6, from);
            }
        }

        private void takeSizes() {
            int from = field.at;
            int follow = takeNumber();
            int behind = field.at;
            int makes = takeNumber();
            if (makes > made.room()) {
                fail(7, behind);
            }
            int zero = field.at;
            if (takeOctet() != 0) {
                fail(9, zero);
            }
            int dataSize = takeNumber();
            int codesSize = takeNumber();
            int addressesSize = takeNumber();
            long sections = (long) dataSize + codesSize + addressesSize;
            if (follow != field.at - behind + sections) {
                fail(8, from);
            }
            if (sections > field.left()) {
                fail(1, field.end);
            }
            if (fault == 0) {
                windowFrom = made.count;
                windowEnd = made.count + makes;
                data.set(delta, field.at, field.at + dataSize);
                codes.set(delta, data.end, data.end + codesSize);
                addresses.set(delta, codes.end, codes.end + addressesSize);
                field.at = addresses.end;
            }
        }

        private void endWindow() {
            if (fault != 0) {
                return;
            }
            if (made.count < windowEnd) {
                fail(16, field.at);
            } else if (data.left() > 0 || addresses.left() > 0) {
                fail(17, field.at);
            } else {
                windows++;
            }
        }

        private void runPart(Table table, int code, int part, int where) {
            int kind = table.kindOf(code, part);
            if (fault != 0 || kind == NOTHING) {
                return;
            }
            int size = table.sizeOf(code, part);
            if (size == 0) {
                size = codes.nextNumber();
            }
            if (size < 0) {
                fail(11, where);
            } else if (size > windowEnd - made.count) {
                fail(15, where);
            } else if (kind == COPY) {
                runCopy(size, table.modeOf(code, part), code, where);
            } else {
                runData(kind, size, code, where);
            }
        }

        private void runData(int kind, int size, int code, int where) {
            if (data.left() < (kind == RUN ? 1 : size)) {
                fail(12, where);
                return;
            }
            int repeated = kind == RUN ? data.nextOctet() : 0;
            for (int i = 0; i < size; i++) {
                make(kind == RUN ? repeated : data.nextOctet(), MADE_OF_DATA);
            }
            steps.put(kind, size, 0, 0, code, windows);
        }

        private void runCopy(int size, int mode, int code, int where) {
            int here = segmentSize + made.count - windowFrom;
            int told = nears.isSameMode(mode) ? addresses.nextOctet() : addresses.nextNumber();
            long wanted = told;
            if (nears.isSameMode(mode)) {
                wanted = nears.sameOne(mode, told);
            } else if (mode == 1) {
                wanted = (long) here - told;
            } else if (mode > 1) {
                wanted = (long) nears.nearOne(mode) + told;
            }
            if (told < 0 || wanted < 0 || wanted >= here) {
                fail(13, where);
                return;
            }
            int address = (int) wanted;
            nears.keep(address);
            for (int i = 0; i < size; i++) {
                makeFrom(address + i);
            }
            steps.put(COPY, size, address, mode, code, windows);
        }

        private void makeFrom(int address) {
            int from = segmentFrom + address;
            if (address < segmentSize && segmentKind == SOURCE_SEGMENT) {
                make(source.at(from), from);
                return;
            }
            if (address >= segmentSize) {
                from = windowFrom + address - segmentSize;
            }
            if (made.has(from)) {
                make(made.at(from), origins[from]);
            }
        }

        private void make(int v, int origin) {
            int next = made.count;
            if (next < origins.length) {
                origins[next] = origin;
                made.octets[next] = v;
                made.count = next + 1;
            }
        }

        /** What comes from places of the source comes from where these came from. */
        void traceBack(int[] earlier, int count) {
            for (int i = 0; i < made.count; i++) {
                int origin = origins[i];
                boolean there = origin >= 0 && origin < count && origin < earlier.length;
                origins[i] = there ? earlier[origin] : MADE_OF_DATA;
            }
        }
    }

    /**
     * The longest matches in U. Places whose next four octets fall together stand in one chain,
     * in the order of addresses. Those of the segment are kept from window to window.
     */
    private static final class Finder {
        static final int ROOM = 2 * SHORT_ROOM;
        static final int CHAINS = 1024;

        final int[] u = new int[ROOM];
        final int[] nexts = new int[ROOM];
        final int[] segmentHeads = new int[CHAINS];
        final int[] segmentTails = new int[CHAINS];
        final int[] windowHeads = new int[CHAINS];
        final int[] windowTails = new int[CHAINS];
        int sorted;
        int end;
        int seen;
        int size;
        int address;

        void begin(Row segment, int by) {
            Arrays.fill(segmentHeads, NONE);
            sorted = 0;
            end = 0;
            if (by == SOURCE_SEGMENT) {
                set(0, segment, 0, segment.count);
            }
        }

        private void set(int to, Row row, int from, int until) {
            int n = Math.min(until - from, ROOM - to);
            if (n > 0 && to >= 0 && from >= 0 && until <= row.count) {
                System.arraycopy(row.octets, from, u, to, n);
                end = to + n;
            }
        }

        /** All of a segment stands in U before: from begin(), or as the windows so far. */
        void openWindow(int segmentSize, Row target, int from, int until) {
            end = segmentSize;
            for (; sorted + LEAST_MATCH <= segmentSize; sorted++) {
                sortIn(sorted, segmentHeads, segmentTails);
            }
            set(segmentSize, target, from, until);
            Arrays.fill(windowHeads, NONE);
            for (int a = sorted; a + LEAST_MATCH <= end; a++) {
                sortIn(a, windowHeads, windowTails);
            }
            seen = NONE;
        }

        private void sortIn(int a, int[] heads, int[] tails) {
            int chain = chainAt(a);
            nexts[a] = NONE;
            if (heads[chain] < 0) {
                heads[chain] = a;
            } else {
                nexts[tails[chain]] = a;
            }
            tails[chain] = a;
        }

        private int chainAt(int a) {
            int four = u[a] << 24 | u[a + 1] << 16 | u[a + 2] << 8 | u[a + 3];
            return four * 0x9E3779B1 >>> 22;
        }

        int runAt(int here) {
            int until = here;
            while (until < end && u[until] == u[here]) {
                until++;
            }
            return until - here;
        }

        /** How long the longest match is (0 for less than four octets); address is its place. */
        int longestAt(int here) {
            if (here == seen) {
                return size;
            }
            seen = here;
            size = 0;
            address = 0;
            if (here >= 0 && here + LEAST_MATCH <= end) {
                int chain = chainAt(here);
                search(segmentHeads[chain], here);
                search(windowHeads[chain], here);
            }
            return size;
        }

        private void search(int head, int here) {
            int most = end - here;
            int a = head;
            for (int i = 0; i < ROOM && a >= 0 && a < here && size < most; i++) {
                // A longer match than the one so far must be alike there too.
                if (u[a + size] == u[here + size]) {
                    int like = 0;
                    while (like < most && u[a + like] == u[here + like]) {
                        like++;
                    }
                    if (like >= LEAST_MATCH && like > size) {
                        size = like;
                        address = a;
                    }
                }
                a = nexts[a];
            }
        }
    }

    /** Writes windows: the instructions, then their codes, then the three sections. */
    private static final class Writer {
        final Row data = new Row(SHORT_ROOM);
        final Row codes = new Row(SHORT_ROOM);
        final Row addresses = new Row(SHORT_ROOM);
        final Caches nears = new Caches();
        final Finder finder = new Finder();
        Row out;
        Steps steps;
        int window;
        int firstStep;
        int segmentKind;
        int segmentSize;
        boolean codeLacks;

        Writer() {
            // As in Reader: no null before begin().
            out = data;
            steps = new Steps(0);
        }

        void begin(Row into, Steps list) {
            out = into;
            steps = list;
            window = 0;
            codeLacks = false;
        }

        void putWindows(Table table, Row source, Row target, int way, int by, int windowSize) {
            if (way > 0) {
                finder.begin(source, by);
            }
            for (int from = 0; from < target.count && !codeLacks; from += Math.max(windowSize, 1)) {
                int until = Math.min(from + windowSize, target.count);
                int behind = by == TARGET_SEGMENT ? from : 0;
                openWindow(table, by, by == SOURCE_SEGMENT ? source.count : behind);
                if (way > 0) {
                    finder.openWindow(segmentSize, target, from, until);
                    choose(target, from, until, way);
                } else {
                    putAdd(target, from, until);
                }
                chooseCodes(table);
                closeWindow(until - from);
            }
        }

        /** One window of octets with the places of the source from which they come. */
        void putTraced(Table table, int sourceSize, Row target, int[] origins) {
            if (target.count == 0) {
                return;
            }
            openWindow(table, SOURCE_SEGMENT, sourceSize);
            int added = 0;
            int place = 0;
            for (int i = 0; i < target.count && place < target.count; i++) {
                int size = tracedAt(place, target.count, origins);
                if (size >= LEAST_MATCH) {
                    putAdd(target, added, place);
                    putCopy(origins[place], size, segmentSize + place);
                    added = place + size;
                }
                place += Math.max(size, 1);
            }
            putAdd(target, added, target.count);
            chooseCodes(table);
            closeWindow(target.count);
        }

        private static int tracedAt(int place, int end, int[] origins) {
            int most = Math.min(end, origins.length) - place;
            if (most <= 0 || origins[place] < 0) {
                return 0;
            }
            int size = 1;
            while (size < most && origins[place + size] == origins[place] + size) {
                size++;
            }
            return size;
        }

        private void openWindow(Table table, int by, int size) {
            segmentKind = size == 0 ? NO_SEGMENT : by;
            segmentSize = size;
            firstStep = steps.count;
            data.makeEmpty();
            codes.makeEmpty();
            addresses.makeEmpty();
            nears.begin(table);
        }

        private void choose(Row target, int from, int until, int way) {
            int added = from;
            int place = from;
            for (int i = from; i < until && place < until; i++) {
                int here = segmentSize + place - from;
                int run = finder.runAt(here);
                int match = finder.longestAt(here);
                int address = finder.address;
                boolean runs = run >= LEAST_RUN && run >= match;
                if (runs) {
                    putAdd(target, added, place);
                    putRun(target.at(place), run);
                    place += run;
                    added = place;
                } else if (match < LEAST_MATCH || way == 2 && finder.longestAt(here + 1) >= match + 2) {
                    place++;
                } else {
                    putAdd(target, added, place);
                    putCopy(address, match, here);
                    place += match;
                    added = place;
                }
            }
            putAdd(target, added, until);
        }

        private void putAdd(Row row, int from, int until) {
            if (from >= until) {
                return;
            }
            for (int i = from; i < until; i++) {
                data.put(row.at(i));
            }
            steps.put(ADD, until - from, 0, 0, 0, window);
        }

        private void putRun(int v, int size) {
            data.put(v);
            steps.put(RUN, size, 0, 0, 0, window);
        }

        private void putCopy(int address, int size, int here) {
            int mode = nears.cheapestMode(address, here);
            nears.putAddress(addresses, mode, address, here);
            nears.keep(address);
            steps.put(COPY, size, address, mode, 0, window);
        }

        private void chooseCodes(Table table) {
            for (int k = firstStep; k < steps.count; k++) {
                int code = k + 1 < steps.count ? table.pairFor(steps, k) : NONE;
                if (code >= 0) {
                    codes.put(code);
                    steps.setCode(k, code);
                    steps.setCode(k + 1, code);
                    k++;
                } else {
                    chooseSingle(table, k);
                }
            }
        }

        private void chooseSingle(Table table, int k) {
            int kind = steps.at(k, Steps.KIND);
            int size = steps.at(k, Steps.SIZE);
            int mode = steps.at(k, Steps.MODE);
            int code = table.singleFor(kind, size, mode);
            boolean sized = code >= 0;
            if (!sized) {
                code = table.singleFor(kind, 0, mode);
            }
            if (code < 0) {
                codeLacks = true;
                return;
            }
            codes.put(code);
            steps.setCode(k, code);
            if (!sized) {
                codes.putNumber(size);
            }
        }

        private void closeWindow(int makes) {
            out.put(segmentKind);
            if (segmentKind != NO_SEGMENT) {
                out.putNumber(segmentSize);
                out.putNumber(0);
            }
            int sizes = numberSize(data.count) + numberSize(codes.count) + numberSize(addresses.count);
            int sections = data.count + codes.count + addresses.count;
            out.putNumber(numberSize(makes) + 1 + sizes + sections);
            out.putNumber(makes);
            out.put(0);
            out.putNumber(data.count);
            out.putNumber(codes.count);
            out.putNumber(addresses.count);
            out.putAll(data);
            out.putAll(codes);
            out.putAll(addresses);
            window++;
        }
    }
}
