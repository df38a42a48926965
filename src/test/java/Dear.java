import java.util.Random;

/** A table and rows with which a DELTA comes to 8000 octets and more. */
final class Dear {
    /** Kinds of parts that a DELTA from the first table can hardly tell in fewer octets. */
    private static final String PARTS = "1223232122102203303003131331230022201100312200300113102022302112"
            + "0130323120212030311300033322211031022121320322111030133200023201"
            + "0311323302012122122311012312001013201233130222233313010210130201"
            + "3311001212012313000030030301200133230001100133133300102303311331"
            + "0020033103302102023321303130331321032021320303021300111210030033"
            + "0031121122223032120333301122010133210213322133331022221330113023"
            + "2301313212003331303131310010313322332002033312330013300311121033"
            + "0023022322122100100011212230100210113322001312323200300023103000";

    private Dear() {
    }

    /** SOURCE is of octets below 128, between which TARGET has single ones above. */
    static void setRows(CodedDeltas x) {
        Random random = new Random(5);
        for (int i = 0; i < 4000; i++) {
            x.feed(Rows.SOURCE, random.nextInt(128), 1);
        }
        while (x.length(Rows.TARGET) < 4000) {
            int left = Math.min(51 - x.length(Rows.TARGET) % 51, 4000 - x.length(Rows.TARGET));
            x.feed(Rows.TARGET, 128 + random.nextInt(128), 1);
            if (left > 4) {
                x.copy(Rows.SOURCE, 128 + random.nextInt(3700), 4, Rows.TARGET);
            }
        }
    }

    static int[] noise() {
        Random random = new Random(77);
        int[] string = new int[1536];
        for (int i = 0; i < 512; i++) {
            string[i] = PARTS.charAt(i) - '0';
            string[512 + i] = 30 + random.nextInt(226);
            string[1024 + i] = string[i] == Tables.COPY ? random.nextInt(2) : random.nextInt(256);
        }
        // A COPY of four octets now and then breaks up the ADDs, which costs one octet more.
        for (int i = 0; i < 10; i++) {
            for (int k = 0; k < 4; k++) {
                string[512 + 22 * i + 18 + k] = 14 - i + k;
            }
        }
        int from = 1000;
        for (int i = 1060; i < 1500; i++) {
            boolean free = true;
            for (int k = 0; k < 4; k++) {
                free = free && string[i + k - 1024] != Tables.COPY;
            }
            if (free) {
                System.arraycopy(string, from, string, i, 4);
                from -= 6;
                i += 21;
            }
        }
        int[][] needed = {{255, Tables.ADD, 0}, {254, Tables.COPY, 0}, {253, Tables.COPY, 1}};
        for (int[] one : needed) {
            string[one[0]] = one[1];
            string[256 + one[0]] = 0;
            string[512 + one[0]] = 0;
            string[1024 + one[0]] = one[2];
        }
        return string;
    }
}
