import java.nio.charset.StandardCharsets;

/** What the tests share: due answers are compared, wrong ones printed and counted. */
final class Checks {
    static final int NONE = -1000000, BAD = -1000001, STATE = -1000002, FULL = -1000003;
    static final int NULL = -1000011, PLACE = -1000012, KIND = -1000013, SIZE = -1000014, STORE = -1000015;

    private int made;
    private int wrong;

    void due(String call, long got, long want) {
        made++;
        if (got != want) {
            wrong++;
            System.out.println(call + " answered " + got + ", due is " + want);
        }
    }

    /** Feeds a text and reads it. */
    int read(SignedClouds x, String text) {
        for (byte letter : text.getBytes(StandardCharsets.ISO_8859_1)) {
            x.feed(letter & 255);
        }
        return x.sky();
    }

    /** A new object with a SKY. */
    SignedClouds under(String text) {
        SignedClouds x = new SignedClouds();
        if (read(x, text) < 1) {
            wrong++;
            System.out.println("no sky: " + text);
        }
        return x;
    }

    /** A ROW that tells these ITEMS. */
    void tell(SignedClouds x, int row, int lane, int... items) {
        x.row(row, lane, items.length);
        for (int i = 0; i < items.length; i++) {
            x.set(row, i, items[i]);
        }
    }

    void end() {
        System.out.println(made + " answers looked at, " + wrong + " wrong");
        if (wrong != 0 || made == 0) {
            System.exit(1);
        }
    }
}
