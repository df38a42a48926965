import java.util.ArrayList;
import java.util.Arrays;
import java.util.List;

/** The document's form once more, as plainly and slowly as can be, to hold the program against. */
final class Reference {
    static final int[] FIRST = firstTable();

    private Reference() {
    }

    /** A table's STRING with its NEAR and SAME. */
    static final class Codes {
        final int[] string;
        final int near;
        final int same;

        Codes(int[] string, int near, int same) {
            this.string = string;
            this.near = near;
            this.same = same;
        }

        static Codes first() {
            return new Codes(FIRST, 4, 3);
        }

        boolean right() {
            for (int i = 0; i < 512; i++) {
                if (string[i] > 3 || string[i] == 3 && string[1024 + i] >= near + same + 2) {
                    return false;
                }
            }
            return true;
        }

        boolean is(int code, int part, int[] step, int size) {
            int i = 256 * part + code;
            return string[i] == step[0] && string[512 + i] == size && (step[0] != 3 || string[1024 + i] == step[3]);
        }
    }

    /** Addresses of a window. */
    static final class Near {
        final int[] ring;
        final int[] same;
        int turn;

        Near(Codes codes) {
            ring = new int[codes.near];
            same = new int[256 * codes.same];
        }

        void behind(int a) {
            if (ring.length > 0) {
                ring[turn] = a;
                turn = (turn + 1) % ring.length;
            }
            if (same.length > 0) {
                same[a % same.length] = a;
            }
        }

        /** What MODE m writes for address a; null: it can't. */
        List<Integer> by(int m, int a, int here) {
            if (m == 0) {
                return number(a);
            }
            if (m == 1) {
                return number(here - a);
            }
            if (m < 2 + ring.length) {
                return a >= ring[m - 2] ? number(a - ring[m - 2]) : null;
            }
            for (int b = 0; b < 256; b++) {
                if (same[256 * (m - 2 - ring.length) + b] == a) {
                    return List.of(b);
                }
            }
            return null;
        }

        int modes() {
            return 2 + ring.length + same.length / 256;
        }
    }

    static int[] firstTable() {
        List<int[]> codes = new ArrayList<>();
        codes.add(new int[] {2, 0, 0, 0, 0, 0});
        for (int s = 0; s <= 17; s++) {
            codes.add(new int[] {1, s, 0, 0, 0, 0});
        }
        for (int m = 0; m <= 8; m++) {
            codes.add(new int[] {3, 0, m, 0, 0, 0});
            for (int s = 4; s <= 18; s++) {
                codes.add(new int[] {3, s, m, 0, 0, 0});
            }
        }
        for (int m = 0; m <= 5; m++) {
            for (int a = 1; a <= 4; a++) {
                for (int s = 4; s <= 6; s++) {
                    codes.add(new int[] {1, a, 0, 3, s, m});
                }
            }
        }
        for (int m = 6; m <= 8; m++) {
            for (int a = 1; a <= 4; a++) {
                codes.add(new int[] {1, a, 0, 3, 4, m});
            }
        }
        for (int m = 0; m <= 8; m++) {
            codes.add(new int[] {3, 4, m, 1, 1, 0});
        }
        int[] string = new int[1536];
        int[] order = {0, 3, 1, 4, 2, 5};
        for (int section = 0; section < 6; section++) {
            for (int c = 0; c < 256; c++) {
                string[256 * section + c] = codes.get(c)[order[section]];
            }
        }
        return string;
    }

    static List<Integer> number(long v) {
        List<Integer> octets = new ArrayList<>();
        octets.add((int) (v % 128));
        for (long rest = v / 128; rest > 0; rest /= 128) {
            octets.add(0, (int) (128 + rest % 128));
        }
        return octets;
    }

    static void addAll(List<Integer> list, int[] octets, int from, int until) {
        for (int i = from; i < until; i++) {
            list.add(octets[i]);
        }
    }

    static int[] array(List<Integer> list) {
        return list.stream().mapToInt(Integer::intValue).toArray();
    }

    // ======== writing

    /** What was written, or why not. */
    static final class Written {
        int answer;
        int[] delta;
        final List<int[]> steps = new ArrayList<>();
    }

    static Written write(int[] source, int[] target, int way, int by, int window, Codes own) {
        Written w = new Written();
        List<Integer> out = new ArrayList<>(List.of(214, 195, 196, 0, own == null ? 0 : 2));
        if (own != null) {
            Written table = write(FIRST, own.string, 1, 1, 1536, null);
            out.addAll(number(table.delta.length + 2));
            out.add(own.near);
            out.add(own.same);
            addAll(out, table.delta, 0, table.delta.length);
        }
        Codes codes = own == null ? Codes.first() : own;
        int windows = 0;
        for (int start = 0; start < target.length; start += window) {
            int end = Math.min(start + window, target.length);
            int[] segment = by == 0 ? new int[0] : by == 1 ? source : Arrays.copyOf(target, start);
            int[] made = Arrays.copyOfRange(target, start, end);
            List<int[]> steps = way == 0 ? List.of(new int[] {1, end - start, 0, 0, 0, 0}) : choose(segment, made, way);
            if (!putWindow(out, w.steps, codes, by, segment, made, steps, windows)) {
                w.answer = -5;
                return w;
            }
            windows++;
        }
        w.delta = array(out);
        w.answer = out.size() > 8000 ? -4 : out.size();
        return w;
    }

    private static int[] match(int[] u, int place) {
        int best = 0;
        int at = 0;
        for (int a = 0; a < place; a++) {
            int n = 0;
            while (place + n < u.length && u[a + n] == u[place + n]) {
                n++;
            }
            if (n > best) {
                best = n;
                at = a;
            }
        }
        return new int[] {best, at};
    }

    private static List<int[]> choose(int[] segment, int[] made, int way) {
        int[] u = Rows.join(segment, made);
        List<int[]> steps = new ArrayList<>();
        int place = segment.length;
        while (place < u.length) {
            int r = 1;
            while (place + r < u.length && u[place + r] == u[place]) {
                r++;
            }
            int[] m = match(u, place);
            int[] step;
            if (r >= 6 && r >= m[0]) {
                step = new int[] {2, r, 0, 0, 0, 0};
            } else if (m[0] >= 4 && !(way == 2 && place + 1 < u.length && match(u, place + 1)[0] >= m[0] + 2)) {
                step = new int[] {3, m[0], m[1], 0, 0, 0};
            } else {
                step = new int[] {1, 1, 0, 0, 0, 0};
            }
            place += step[1];
            int[] last = steps.isEmpty() ? null : steps.get(steps.size() - 1);
            if (last != null && last[0] == 1 && step[0] == 1) {
                last[1]++;
            } else {
                steps.add(step);
            }
        }
        return steps;
    }

    private static boolean putWindow(List<Integer> out, List<int[]> told, Codes codes, int by, int[] segment,
            int[] made, List<int[]> steps, int window) {
        List<Integer> data = new ArrayList<>();
        List<Integer> coded = new ArrayList<>();
        List<Integer> addresses = new ArrayList<>();
        Near near = new Near(codes);
        int place = 0;
        for (int[] step : steps) {
            step[5] = window;
            if (step[0] == 3) {
                int here = segment.length + place;
                List<Integer> best = null;
                for (int m = 0; m < near.modes(); m++) {
                    List<Integer> octets = near.by(m, step[2], here);
                    if (octets != null && (best == null || octets.size() < best.size())) {
                        best = octets;
                        step[3] = m;
                    }
                }
                addresses.addAll(best);
                near.behind(step[2]);
            } else {
                addAll(data, made, place, place + (step[0] == 1 ? step[1] : 1));
            }
            place += step[1];
        }
        if (!putCodes(coded, codes, steps)) {
            return false;
        }
        told.addAll(steps);
        out.add(segment.length == 0 ? 0 : by);
        if (segment.length > 0) {
            out.addAll(number(segment.length));
            out.add(0);
        }
        List<Integer> rest = new ArrayList<>(number(made.length));
        rest.add(0);
        rest.addAll(number(data.size()));
        rest.addAll(number(coded.size()));
        rest.addAll(number(addresses.size()));
        rest.addAll(data);
        rest.addAll(coded);
        rest.addAll(addresses);
        out.addAll(number(rest.size()));
        out.addAll(rest);
        return true;
    }

    private static boolean putCodes(List<Integer> coded, Codes codes, List<int[]> steps) {
        for (int k = 0; k < steps.size(); k++) {
            int[] step = steps.get(k);
            int[] next = k + 1 < steps.size() ? steps.get(k + 1) : null;
            int pair = -1;
            int sized = -1;
            int open = -1;
            for (int c = 255; c >= 0; c--) {
                boolean alone = codes.string[256 + c] == 0;
                if (next != null && codes.is(c, 0, step, step[1]) && codes.is(c, 1, next, next[1])) {
                    pair = c;
                }
                sized = alone && codes.is(c, 0, step, step[1]) ? c : sized;
                open = alone && codes.is(c, 0, step, 0) ? c : open;
            }
            int code = pair >= 0 ? pair : sized >= 0 ? sized : open;
            if (code < 0) {
                return false;
            }
            coded.add(code);
            step[4] = code;
            if (pair >= 0) {
                next[4] = code;
                k++;
            } else if (sized < 0) {
                coded.addAll(number(step[1]));
            }
        }
        return true;
    }

    // ======== reading

    /** The first fault of a reading. */
    private static final class Fault extends RuntimeException {
        private static final long serialVersionUID = 1;
        final int fault;
        final int place;

        Fault(int fault, int place) {
            super(null, null, false, false);
            this.fault = fault;
            this.place = place;
        }
    }

    /** What a reading came to. */
    static final class Read {
        int fault;
        int place;
        int windows;
        final List<int[]> steps = new ArrayList<>();
        final List<Integer> made = new ArrayList<>();
        final List<Integer> origins = new ArrayList<>();
    }

    /** Where a reading stands in a row. */
    private static final class Place {
        final int[] row;
        final int end;
        int at;

        Place(int[] row, int at, int end) {
            this.row = row;
            this.at = at;
            this.end = end;
        }

        int octet(int fault, int place) {
            if (at >= end) {
                throw new Fault(fault, place);
            }
            return row[at++];
        }

        int number(int lacks, int lackPlace, int none, int nonePlace) {
            long v = 0;
            for (int i = 1; i <= 5; i++) {
                int b = octet(lacks, lackPlace);
                v = v << 7 | b & 127;
                if (b < 128 && v < 1L << 31) {
                    return (int) v;
                }
                if (b < 128) {
                    break;
                }
            }
            throw new Fault(none, nonePlace);
        }

        int octet() {
            return octet(1, end);
        }

        int number() {
            return number(1, end, 4, at);
        }
    }

    static Read read(int[] source, int[] delta) {
        return read(source, delta, 0, delta.length, true);
    }

    private static Read read(int[] source, int[] delta, int from, int end, boolean tables) {
        Read r = new Read();
        try {
            Place p = new Place(delta, from, end);
            int[] mark = {214, 195, 196, 0};
            for (int i = 0; i < 4; i++) {
                int at = p.at;
                if (p.octet() != mark[i]) {
                    throw new Fault(2, at);
                }
            }
            int at = p.at;
            int kind = p.octet();
            if (kind != 0 && !(kind == 2 && tables)) {
                throw new Fault(3, at);
            }
            Codes codes = kind == 2 ? table(p) : Codes.first();
            while (p.at < p.end) {
                window(r, source, p, codes);
                r.windows++;
            }
        } catch (Fault f) {
            r.fault = f.fault;
            r.place = f.place;
        }
        return r;
    }

    private static Codes table(Place p) {
        int at = p.at;
        int size = p.number();
        if (size < 2) {
            throw new Fault(18, at);
        }
        int near = p.octet();
        if (near > 8) {
            throw new Fault(18, p.at - 1);
        }
        int same = p.octet();
        if (same > 4) {
            throw new Fault(18, p.at - 1);
        }
        if (p.end - p.at < size - 2) {
            throw new Fault(1, p.end);
        }
        Read r = read(FIRST, p.row, p.at, p.at + size - 2, false);
        Codes codes = new Codes(array(r.made), near, same);
        if (r.fault != 0 || codes.string.length != 1536 || !codes.right()) {
            throw new Fault(18, p.at);
        }
        p.at += size - 2;
        return codes;
    }

    private static void window(Read r, int[] source, Place p, Codes codes) {
        int at = p.at;
        int kind = p.octet();
        if (kind > 2) {
            throw new Fault(5, at);
        }
        List<Integer> u = new ArrayList<>();
        List<Integer> uOrigins = new ArrayList<>();
        if (kind > 0) {
            int size = p.number();
            at = p.at;
            long from = p.number();
            if (from + size > (kind == 1 ? source.length : r.made.size())) {
                throw new Fault(6, at);
            }
            for (int i = (int) from; i < from + size; i++) {
                u.add(kind == 1 ? source[i] : r.made.get(i));
                uOrigins.add(kind == 1 ? Integer.valueOf(i) : r.origins.get(i));
            }
        }
        int placeOfL = p.at;
        int l = p.number();
        int begin = p.at;
        int n = p.number();
        if (n > 4000 - r.made.size()) {
            throw new Fault(7, begin);
        }
        if (p.octet() != 0) {
            throw new Fault(9, p.at - 1);
        }
        long d = p.number();
        long c = p.number();
        long a = p.number();
        if (p.at - begin + d + c + a != l) {
            throw new Fault(8, placeOfL);
        }
        if (p.at + d + c + a > p.end) {
            throw new Fault(1, p.end);
        }
        Place data = new Place(p.row, p.at, p.at + (int) d);
        Place code = new Place(p.row, data.end, data.end + (int) c);
        Place addresses = new Place(p.row, code.end, code.end + (int) a);
        p.at = addresses.end;
        int segment = u.size();
        try {
            instructions(r, u, uOrigins, n + segment, new Place[] {data, code, addresses}, codes);
        } finally {
            r.made.addAll(u.subList(segment, u.size()));
            r.origins.addAll(uOrigins.subList(segment, u.size()));
        }
        if (u.size() < n + segment) {
            throw new Fault(16, p.at);
        }
        if (data.at < data.end || addresses.at < addresses.end) {
            throw new Fault(17, p.at);
        }
    }

    private static void instructions(Read r, List<Integer> u, List<Integer> uOrigins, int end, Place[] sections,
            Codes codes) {
        Place data = sections[0];
        Place code = sections[1];
        Near near = new Near(codes);
        while (code.at < code.end) {
            int at = code.at;
            int c = code.octet();
            for (int i = c; i < 512; i += 256) {
                int kind = codes.string[i];
                if (kind == 0) {
                    continue;
                }
                int size = codes.string[512 + i];
                size = size == 0 ? code.number(11, at, 11, at) : size;
                if (size > end - u.size()) {
                    throw new Fault(15, at);
                }
                int mode = kind == 3 ? codes.string[1024 + i] : 0;
                int address = 0;
                if (kind == 1) {
                    if (data.end - data.at < size) {
                        throw new Fault(12, at);
                    }
                    for (int k = 0; k < size; k++) {
                        u.add(data.octet());
                        uOrigins.add(-1);
                    }
                } else if (kind == 2) {
                    int v = data.octet(12, at);
                    for (int k = 0; k < size; k++) {
                        u.add(v);
                        uOrigins.add(-1);
                    }
                } else {
                    address = address(sections[2], near, mode, u.size(), at);
                    for (int k = 0; k < size; k++) {
                        u.add(u.get(address + k));
                        uOrigins.add(uOrigins.get(address + k));
                    }
                }
                r.steps.add(new int[] {kind, size, address, mode, c, r.windows});
            }
        }
    }

    private static int address(Place addresses, Near near, int mode, int here, int at) {
        long a;
        if (mode >= 2 + near.ring.length) {
            a = near.same[256 * (mode - 2 - near.ring.length) + addresses.octet(13, at)];
        } else {
            long v = addresses.number(13, at, 13, at);
            a = mode == 0 ? v : mode == 1 ? here - v : near.ring[mode - 2] + v;
        }
        if (a < 0 || a >= here) {
            throw new Fault(13, at);
        }
        near.behind((int) a);
        return (int) a;
    }

    // ======== joined

    /** What join() writes for two readings without fault. */
    static Written join(int[] source, Read first, Read second) {
        Written w = new Written();
        List<Integer> out = new ArrayList<>(List.of(214, 195, 196, 0, 0));
        int[] c = array(second.made);
        int[] from = new int[c.length];
        for (int i = 0; i < c.length; i++) {
            int inB = second.origins.get(i);
            from[i] = inB < 0 ? -1 : first.origins.get(inB);
        }
        List<int[]> steps = new ArrayList<>();
        int i = 0;
        while (i < c.length) {
            int n = 1;
            while (from[i] >= 0 && i + n < c.length && from[i + n] == from[i] + n) {
                n++;
            }
            int[] last = steps.isEmpty() ? null : steps.get(steps.size() - 1);
            if (n >= 4) {
                steps.add(new int[] {3, n, from[i], 0, 0, 0});
                i += n;
            } else if (last != null && last[0] == 1) {
                last[1]++;
                i++;
            } else {
                steps.add(new int[] {1, 1, 0, 0, 0, 0});
                i++;
            }
        }
        if (c.length > 0) {
            putWindow(out, w.steps, Codes.first(), 1, source, c, steps, 0);
        }
        w.delta = array(out);
        w.answer = out.size() > 8000 ? -4 : out.size();
        return w;
    }
}
