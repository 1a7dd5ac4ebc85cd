import java.nio.charset.StandardCharsets;

/** Puts texts on the tape of an object. */
final class Tape {
    static final int RAIL = 0;
    static final int MONTH = 1;
    static final int LOG = 2;

    private Tape() {
    }

    /** The tape is the text alone; at most 600 signs. */
    static void put(ElsewhereStamps x, String text) {
        byte[] bytes = text.getBytes(StandardCharsets.ISO_8859_1);
        x.end(0);
        for (int at = 0; at < bytes.length; at += 20) {
            int[] five = new int[5];
            for (int i = 0; i < 20; i++) {
                int sign = at + i < bytes.length ? bytes[at + i] & 255 : 32;
                five[i / 4] = five[i / 4] << 8 | sign;
            }
            x.feed(five[0], five[1], five[2], five[3], five[4]);
        }
        if (x.end(bytes.length) != bytes.length) {
            throw new IllegalStateException("the tape does not hold the text");
        }
    }

    static int tell(ElsewhereStamps x, String text, int sort, int at) {
        put(x, text);
        return x.text(sort, at);
    }

    /** A new object with a RAIL. */
    static ElsewhereStamps withRail(String text) {
        ElsewhereStamps x = new ElsewhereStamps();
        if (tell(x, text, RAIL, ElsewhereStamps.NONE) != 0) {
            throw new IllegalStateException("fault " + x.fault(0) + " at " + x.fault(1) + " in " + text);
        }
        return x;
    }
}
