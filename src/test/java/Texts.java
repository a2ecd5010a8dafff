import java.nio.charset.StandardCharsets;

/** Puts texts on the tape. */
final class Texts {
    private Texts() {
    }

    /** The tape is this text alone. */
    static void put(BentScreens x, String text) {
        byte[] bytes = text.getBytes(StandardCharsets.ISO_8859_1);
        x.end(0);
        for (int k = 0; k < bytes.length; k += 20) {
            int[] n = new int[5];
            for (int j = 0; j < 20; j++) {
                n[j / 4] = n[j / 4] << 8 | (k + j < bytes.length ? bytes[k + j] & 255 : 0);
            }
            x.feed(n[0], n[1], n[2], n[3], n[4]);
        }
        x.end(bytes.length);
    }

    static int film(BentScreens x, String text) {
        put(x, text);
        return x.film();
    }

    static int rules(BentScreens x, String text) {
        put(x, text);
        return x.rules();
    }

    static BentScreens withFilm(String text) {
        BentScreens x = new BentScreens();
        if (film(x, text) < 0) {
            throw new IllegalStateException("a fault in " + text);
        }
        return x;
    }
}
