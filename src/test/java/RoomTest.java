import com.sun.management.ThreadMXBean;
import java.lang.management.ManagementFactory;

/** What an object takes of the room, and that its calls take nothing more (but for images). */
public final class RoomTest {
    private static final ThreadMXBean BEAN = (ThreadMXBean) ManagementFactory.getThreadMXBean();
    private static final int MOST_BYTES = 64000;
    private static final String FILM = "layer 3 4 5 hold;layer 9 9 9 hold;layer 3 2 5 slide;layer 12 1 7 hold;"
            + "layer 8 8 8 hold;layer 1 99 33 hold;life 0 999;life 3 998;life 9 997;life 30 995;folds 1 100;folds 1 200;"
            + "sheet 10 10;panel 1 1 1;panel 2 3 7;panel 3 2 8;panel 4 4 30;flaw 3 3;flaw 7 7;net 6 6;";
    private static final String RULES = "if slides and worth>5 and fed<6 and darks>1:bar;price 9;if kept=0:less 3;";

    private static long sum = 0;

    public static void main(String[] args) {
        run(new BentScreens(), bytes(FILM), bytes(RULES));
        long before = BEAN.getCurrentThreadAllocatedBytes();
        BentScreens x = new BentScreens();
        long made = BEAN.getCurrentThreadAllocatedBytes() - before;
        int[] film = bytes(FILM);
        int[] rules = bytes(RULES);
        before = BEAN.getCurrentThreadAllocatedBytes();
        run(x, film, rules);
        long called = BEAN.getCurrentThreadAllocatedBytes() - before;
        System.out.println("a new object: " + made + " bytes; its calls: " + called + " bytes (" + sum + ")");
        boolean fine = made < MOST_BYTES && called < MOST_BYTES;
        System.out.println(fine ? "it fits" : "it takes too much");
        System.exit(fine ? 0 : 1);
    }

    private static int[] bytes(String text) {
        int[] numbers = new int[(text.length() + 19) / 20 * 5 + 1];
        for (int k = 0; k < numbers.length * 4 - 4; k++) {
            numbers[k / 4] = numbers[k / 4] << 8 | (k < text.length() ? text.charAt(k) : 0);
        }
        numbers[numbers.length - 1] = text.length();
        return numbers;
    }

    private static void put(BentScreens x, int[] n) {
        for (int k = 0; k + 5 < n.length; k += 5) {
            x.feed(n[k], n[k + 1], n[k + 2], n[k + 3], n[k + 4]);
        }
        x.end(n[n.length - 1]);
    }

    private static void run(BentScreens x, int[] film, int[] rules) {
        put(x, film);
        sum += x.film();
        put(x, rules);
        sum += x.rules();
        x.hand(5, 5, 500);
        x.wet(200);
        for (int k = 0; k < 10; k++) {
            x.crack(k % 2 == 0, k / 2, k % 5);
            x.test(1 + k % 9, 500 * (k + 1) * (k + 1), 2, k % 3);
            x.picture(0, k % 6, 0, k % 5, 9, 99);
        }
        for (int k = 0; k < 12; k++) {
            x.image(k % 3);
            x.again(k % 3);
            x.view(k % 2 - 1);
            sum += x.most() + x.mend(2) + x.cut(1) + x.darks() + x.panels() + x.order(0) + x.promise(500) + x.kept();
            sum += x.quarrel(0) + x.next(1) + x.price() + x.barred() + x.lasts(2) + x.shift() + x.unlike() + x.least();
            sum += x.neutral(k) + x.stretch(k, 5) + x.tired(k, 2) + x.cracks(k) + x.worst(5) + x.span(3, true) + x.law(0);
        }
    }
}
