import java.util.ArrayList;
import java.util.Collections;
import java.util.List;
import java.util.Random;

/** Each part by itself with many inputs by a fixed seed, all of its answers held to those of Model. */
public final class PartsTest {
    private static final Random RANDOM = new Random(7);
    private static BentScreens screens;
    private static Model model;
    private static String told = "";
    private static int wrong = 0;
    private static int checks = 0;

    private static void due(String what, long got, long want) {
        checks++;
        if (got != want) {
            wrong++;
            if (wrong < 20) {
                System.out.println(told + ": " + what + " answered " + got + ", due is " + want);
            }
        }
    }

    private static void due(String what, boolean got, boolean want) {
        due(what, got ? 1 : 0, want ? 1 : 0);
    }

    public static void main(String[] args) {
        int times = args.length > 0 ? Integer.parseInt(args[0]) : 1;
        for (int k = 0; k < 700 * times; k++) {
            net();
        }
        for (int k = 0; k < 400 * times; k++) {
            laws();
        }
        for (int k = 0; k < 300 * times; k++) {
            lamps();
        }
        for (int k = 0; k < 60 * times; k++) {
            sheet();
        }
        for (int k = 0; k < 300 * times; k++) {
            layers();
        }
        System.out.println(wrong == 0 ? checks + " answers as due" : wrong + " answers are not as due");
        System.exit(wrong == 0 ? 0 : 1);
    }

    private static int between(int low, int high) {
        return low + RANDOM.nextInt(high - low + 1);
    }

    private static void film(String text) {
        if (screens == null || RANDOM.nextInt(10) == 0) {
            screens = new BentScreens();
            model = new Model();
        }
        told = text;
        Texts.put(screens, text);
        model.end(0);
        for (int k = 0; k < text.length(); k += 20) {
            int[] n = new int[5];
            for (int j = 0; j < 20; j++) {
                n[j / 4] = n[j / 4] << 8 | (k + j < text.length() ? text.charAt(k + j) : 0);
            }
            model.feed(n[0], n[1], n[2], n[3], n[4]);
        }
        model.end(text.length());
        due("film", screens.film(), model.film());
    }

    private static void net() {
        int rows = between(1, 6);
        int columns = between(1, 6);
        film("net " + rows + " " + columns + ";");
        List<int[]> parts = new ArrayList<>();
        for (int row = 0; row < rows; row++) {
            for (int column = 0; column < columns; column++) {
                parts.add(new int[] {0, row, column});
                parts.add(new int[] {1, row, column});
            }
        }
        Collections.shuffle(parts, RANDOM);
        int cracks = RANDOM.nextBoolean() ? between(0, 10) : between(0, 40);
        for (int k = 0; k < cracks && k < parts.size(); k++) {
            int[] c = parts.get(k);
            due("crack", screens.crack(c[0] == 1, c[1], c[2]), model.crack(c[0] == 1, c[1], c[2]));
            told += (c[0] == 1 ? " rail " : " line ") + c[1] + " " + c[2];
            int cost = between(1, 9);
            due("cost", screens.cost(k, cost), model.cost(k, cost));
        }
        due("most", screens.most(), model.most());
        for (int what = 0; what <= 4; what++) {
            due("cut " + what, screens.cut(what), model.cut(what));
        }
        for (int row = 0; row < rows; row++) {
            due("fed " + row, screens.fed(row), model.fed(row));
            for (int column = 0; column < columns; column++) {
                int sort = RANDOM.nextInt(2);
                due("inCut " + sort + " " + row + " " + column, screens.inCut(sort, row, column),
                        model.inCut(sort, row, column));
            }
            due("inCut 2 " + row, screens.inCut(2, row, 0), model.inCut(2, row, 0));
            due("inCut 3 " + row, screens.inCut(3, row, 0), model.inCut(3, row, 0));
        }
        due("darks", screens.darks(), model.darks());
        if (RANDOM.nextInt(4) == 0) {
            for (int what = 0; what <= 2; what++) {
                due("mend " + what, screens.mend(what), model.mend(what));
            }
        }
    }

    private static void laws() {
        screens = new BentScreens();
        model = new Model();
        told = "tests";
        int tests = between(0, 12);
        int a = between(1, 60);
        int b = between(0, 3);
        for (int k = 0; k < tests; k++) {
            int speed = between(1, 9);
            // Near one law's folds, so that few laws are kept.
            int unit = a * (int) Math.round(Math.pow(10 - speed, b));
            int folds = Math.max(1, unit * between(6, 14) + between(-1, 1));
            int films = between(1, 3);
            int cracked = folds < 8 * unit ? 0 : folds >= 12 * unit ? films : between(0, films);
            cracked = RANDOM.nextInt(12) == 0 ? between(0, films) : cracked;
            told += " " + speed + "," + folds + "," + films + "," + cracked;
            due("test", screens.test(speed, folds, films, cracked), model.test(speed, folds, films, cracked));
        }
        due("kept", screens.kept(), model.kept());
        for (int k = 0; k <= Math.min(20, model.kept()); k++) {
            due("law " + k, screens.law(k), model.law(k));
        }
        for (int speed = 1; speed <= 9; speed++) {
            due("span", screens.span(speed, false), model.span(speed, false));
            due("span", screens.span(speed, true), model.span(speed, true));
        }
        for (int k = 0; k < 6; k++) {
            due("quarrel " + k, screens.quarrel(k), model.quarrel(k));
        }
        for (int what = 0; what < 3; what++) {
            due("next " + what, screens.next(what), model.next(what));
        }
    }

    private static void lamps() {
        int rows = between(1, 6);
        int columns = between(1, 6);
        film("net " + rows + " " + columns + ";");
        for (int k = between(1, 12); k > 0; k--) {
            int a = between(0, rows - 1);
            int b = between(a, rows - 1);
            int c = between(0, columns - 1);
            int d = between(c, columns - 1);
            int light = between(1, 9);
            int hours = between(1, RANDOM.nextBoolean() ? 20 : 300);
            told += " " + a + b + c + d + " " + light + "*" + hours;
            due("picture", screens.picture(a, b, c, d, light, hours), model.picture(a, b, c, d, light, hours));
        }
        int days = between(0, RANDOM.nextBoolean() ? 10 : 200);
        due("wet", screens.wet(days), model.wet(days));
        for (int row = 0; row < rows; row++) {
            for (int column = 0; column < columns; column++) {
                due("left", screens.left(row, column), model.left(row, column));
                due("damp", screens.damp(row, column), model.damp(row, column));
                due("dark", screens.dark(row, column), model.dark(row, column));
            }
        }
        due("unlike", screens.unlike(), model.unlike());
        due("darks", screens.darks(), model.darks());
        for (int shift = 0; shift <= 5; shift++) {
            due("lasts " + shift, screens.lasts(shift), model.lasts(shift));
        }
        due("shift", screens.shift(), model.shift());
    }

    private static void sheet() {
        int wide = between(1, 10);
        int high = between(1, 10);
        StringBuilder text = new StringBuilder("sheet " + wide + " " + high + ";");
        for (int k = between(0, 4); k > 0; k--) {
            text.append("panel ").append(between(1, 4)).append(' ').append(between(1, 4)).append(' ')
                    .append(between(1, RANDOM.nextBoolean() ? 5 : 20)).append(';');
        }
        for (int k = between(0, 20); k > 0; k--) {
            text.append("flaw ").append(between(0, wide - 1)).append(' ').append(between(0, high - 1)).append(';');
        }
        film(text.toString());
        due("panels", screens.panels(), model.panels());
        for (int k = 0; k <= Math.min(30, model.panels()); k++) {
            for (int what = 0; what < 3; what++) {
                due("panel " + k + " " + what, screens.panel(k, what), model.panel(k, what));
            }
        }
        for (int k = 0; k < 10; k++) {
            int x = between(0, wide - 1);
            int y = between(0, high - 1);
            int w = between(1, wide - x + 1);
            int h = between(1, high - y + 1);
            due("value " + x + " " + y + " " + w + " " + h, screens.value(x, y, w, h), model.value(x, y, w, h));
        }
    }

    private static void layers() {
        StringBuilder text = new StringBuilder();
        int layers = between(1, RANDOM.nextInt(4) == 0 ? 6 : 4);
        int size = RANDOM.nextBoolean() ? 5 : 99;
        for (int k = 0; k < layers; k++) {
            text.append("layer ").append(between(1, size)).append(' ').append(between(1, size)).append(' ')
                    .append(between(1, 99)).append(RANDOM.nextInt(3) == 0 ? " slide;" : " hold;");
        }
        int from = 0;
        for (int k = between(0, 4); k > 0; k--) {
            text.append("life ").append(from).append(' ').append(between(1, RANDOM.nextBoolean() ? 20 : 999)).append(';');
            from += between(1, 20);
        }
        int folds = between(0, 6);
        for (int k = 0; k < folds; k++) {
            text.append("folds ").append(between(1, RANDOM.nextBoolean() ? 9 : 9999)).append(' ')
                    .append(between(1, RANDOM.nextBoolean() ? 500 : 9999)).append(';');
        }
        film(text.toString());
        for (int layer = 0; layer < layers; layer++) {
            int round = between(1, RANDOM.nextBoolean() ? 500 : 9999);
            due("neutral", screens.neutral(layer), model.neutral(layer));
            due("stretch", screens.stretch(layer, round), model.stretch(layer, round));
            due("bears", screens.bears(layer, round), model.bears(layer, round));
            due("bears", screens.bears(layer, screens.least()), model.bears(layer, model.least()));
            due("worst", screens.worst(round), model.worst(round));
            due("cracks", screens.cracks(layer), model.cracks(layer));
            for (int n = 0; n <= folds; n++) {
                due("tired", screens.tired(layer, n), model.tired(layer, n));
            }
            for (int what = 0; what < 6; what++) {
                due("layer", screens.layer(layer, what), model.layer(layer, what));
            }
        }
        due("least", screens.least(), model.least());
        for (int what = 0; what <= layers && layers < 5; what++) {
            due("order " + what, screens.order(what), model.order(what));
        }
        int films = between(1, 99);
        int daily = between(1, 9);
        int round = between(1, 999);
        due("hand", screens.hand(films, daily, round), model.hand(films, daily, round));
        for (int years = 0; years < 6; years++) {
            due("broken", screens.broken(0, years), model.broken(0, years));
            due("share", screens.share(years), model.share(years));
        }
        due("promise", screens.promise(500), model.promise(500));
    }
}
