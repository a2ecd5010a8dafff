import java.lang.reflect.InvocationTargetException;
import java.lang.reflect.Method;
import java.nio.charset.StandardCharsets;
import java.util.ArrayList;
import java.util.Arrays;
import java.util.HashMap;
import java.util.List;
import java.util.Map;
import java.util.Random;

/** Runs of calls made up by a fixed seed, each answer held to that of Model. */
public final class RandomRunsTest {
    private static final int CALLS = 512;
    private static final int[] ODD = {-1, -2, 0, 7, 100, 1000, 10000, Integer.MAX_VALUE, Integer.MIN_VALUE, 501};
    // by method: the numbers that its ints are mostly taken from
    private static final String RANGES = "layer 0-5 0-5;neutral 0-5;stretch 0-5 1-9999;bears 0-5 1-9999;worst 1-9999;"
            + "order 0-6;tired 0-5 0-6;cracks 0-5;day 0-20;view -1-20;crack 0-5 0-5;leads 0-5 0-5;fed 0-5;cut 0-4;"
            + "inCut 0-3 0-5 0-5;picture 0-2 0-5 0-2 0-5 1-9 1-400;left 0-5 0-5;wet 0-25;damp 0-5 0-5;dark 0-5 0-5;"
            + "value 0-3 0-3 1-7 1-7;panel 0-9 0-2;cost 0-12 1-9;mend 0-2;hand 1-999 1-30 1-9999;broken 0-3 0-30;"
            + "share 0-30;promise 0-1000;lasts 0-5;test 1-9 1-2000 1-3 0-3;law 0-60;span 1-9;quarrel 0-3;next 0-2;"
            + "count 0-18;image 0-2;again 0-2;fault 0-1;end 0-400;feed 0-9 0-9 0-9 0-9 0-9";

    private final Random random;
    private final BentScreens screens = new BentScreens();
    private final Model model = new Model();
    private final List<String> log = new ArrayList<>();
    private static final Map<String, Method> MODEL = new HashMap<>();
    private static final Map<String, String[]> RANGE = new HashMap<>();
    private static final List<Method> FACE = new ArrayList<>();
    private static final Map<String, Integer> ANSWERED = new HashMap<>();
    private int left = CALLS;
    private boolean wrong;

    private RandomRunsTest(long seed) {
        random = new Random(seed);
    }

    public static void main(String[] args) {
        for (Method m : Model.class.getDeclaredMethods()) {
            if (!java.lang.reflect.Modifier.isPrivate(m.getModifiers())) {
                MODEL.put(m.getName(), m);
            }
        }
        for (String line : RANGES.split(";")) {
            String[] words = line.split(" ");
            RANGE.put(words[0], Arrays.copyOfRange(words, 1, words.length));
        }
        for (Method m : BentScreens.class.getDeclaredMethods()) {
            if (java.lang.reflect.Modifier.isPublic(m.getModifiers())) {
                FACE.add(m);
            }
        }
        FACE.sort((p, q) -> p.getName().compareTo(q.getName()));
        int runs = args.length > 0 ? Integer.parseInt(args[0]) : 150;
        long first = args.length > 1 ? Long.parseLong(args[1]) : 1;
        int wrong = 0;
        for (long seed = first; seed < first + runs && wrong < 5; seed++) {
            RandomRunsTest run = new RandomRunsTest(seed);
            run.go();
            if (run.wrong) {
                wrong++;
                System.out.println("seed " + seed + ", the run's last calls:");
                run.log.subList(Math.max(0, run.log.size() - 40), run.log.size()).forEach(System.out::println);
            }
        }
        for (Method m : FACE) {
            if (ANSWERED.getOrDefault(m.getName(), 0) == 0) {
                System.out.println("never called: " + m.getName());
                wrong++;
            }
        }
        System.out.println(wrong == 0 ? runs + " runs as due" : "wrong");
        System.exit(wrong == 0 ? 0 : 1);
    }

    private void go() {
        boolean quick = random.nextInt(4) > 0;
        tellFilm();
        while (left > 0 && !wrong) {
            int kind = random.nextInt(100);
            if (kind < 3) {
                tellFilm();
            } else if (kind < 6) {
                tellRules();
            } else if (kind < 9) {
                tellCracks();
            } else {
                Method m = FACE.get(random.nextInt(FACE.size()));
                boolean slow = m.getName().equals("order") || m.getName().equals("mend");
                if (!m.getName().equals("film") && !m.getName().equals("rules")
                        && !(m.getName().equals("feed") && random.nextInt(5) > 0)
                        && !(slow && quick && random.nextInt(4) > 0)) {
                    callWithNumbers(m);
                }
            }
        }
    }

    private int between(int low, int high) {
        return low + random.nextInt(high - low + 1);
    }

    private void callWithNumbers(Method m) {
        String[] ranges = RANGE.getOrDefault(m.getName(), new String[0]);
        Class<?>[] types = m.getParameterTypes();
        Object[] args = new Object[types.length];
        int used = 0;
        for (int k = 0; k < args.length; k++) {
            if (types[k] == boolean.class) {
                args[k] = random.nextBoolean();
            } else {
                String range = ranges[used++];
                int dash = range.indexOf('-', 1);
                int low = Integer.parseInt(range.substring(0, dash));
                int high = Integer.parseInt(range.substring(dash + 1));
                int number = between(low, random.nextInt(3) == 0 ? Math.min(high, low + 3) : high);
                args[k] = random.nextInt(40) == 0 ? ODD[random.nextInt(ODD.length)]
                        : random.nextInt(60) == 0 ? high + 1 : number;
            }
        }
        call(m, args);
    }

    private void call(String name, Object... args) {
        for (Method m : FACE) {
            if (m.getName().equals(name)) {
                call(m, args);
            }
        }
    }

    private void call(Method m, Object... args) {
        if (left <= 0 || wrong) {
            return;
        }
        left--;
        try {
            Object got = m.invoke(screens, args);
            Object due = MODEL.get(m.getName()).invoke(model, args);
            ANSWERED.merge(m.getName(), 1, Integer::sum);
            log.add("  " + m.getName() + Arrays.toString(args) + " answered " + got);
            if (!got.equals(due)) {
                log.add("  due is " + due);
                wrong = true;
            }
        } catch (InvocationTargetException e) {
            log.add("  " + m.getName() + Arrays.toString(args) + " threw " + e.getCause());
            e.getCause().printStackTrace(System.out);
            wrong = true;
        } catch (ReflectiveOperationException e) {
            throw new IllegalStateException(e);
        }
    }

    // ---- texts ----

    private void tell(String text, String as) {
        byte[] bytes = text.getBytes(StandardCharsets.ISO_8859_1);
        if (bytes.length > 480) {
            bytes = Arrays.copyOf(bytes, 480);
        }
        if (random.nextInt(6) == 0 && bytes.length > 0) {
            spoil(bytes);
        }
        call("end", 0);
        for (int k = 0; k < bytes.length; k += 20) {
            int[] n = new int[5];
            for (int j = 0; j < 20; j++) {
                n[j / 4] = n[j / 4] << 8 | (k + j < bytes.length ? bytes[k + j] & 255 : 0);
            }
            call("feed", n[0], n[1], n[2], n[3], n[4]);
        }
        call("end", random.nextInt(30) == 0 ? random.nextInt(bytes.length + 1) : bytes.length);
        log.add("  (" + new String(bytes, StandardCharsets.ISO_8859_1) + ")");
        call(as);
        call("fault", 0);
        call("fault", 1);
    }

    private void spoil(byte[] bytes) {
        String signs = " ;:<=>09az\n@\u00ff";
        for (int k = between(1, 2); k > 0; k--) {
            bytes[random.nextInt(bytes.length)] = (byte) signs.charAt(random.nextInt(signs.length()));
        }
    }

    private String number(int low, int high) {
        return String.valueOf(random.nextInt(120) == 0 ? high + 1 : between(low, high));
    }

    private void tellFilm() {
        List<String> lines = new ArrayList<>();
        boolean full = random.nextInt(12) == 0;
        boolean stiff = random.nextBoolean();
        int layers = Math.min(between(0, full ? 7 : 6), random.nextInt(3) > 0 ? 4 : 7);
        for (int k = layers; k > 0; k--) {
            lines.add("layer " + number(1, stiff ? 99 : 9) + " " + number(1, stiff ? 99 : 5) + " "
                    + number(1, 99) + (random.nextInt(3) == 0 ? " slide" : " hold"));
        }
        for (int k = between(0, full ? 5 : 3); k > 0; k--) {
            lines.add("life " + number(0, 99) + " " + number(1, 999));
        }
        for (int k = between(0, full ? 7 : 5); k > 0; k--) {
            lines.add("folds " + number(1, random.nextBoolean() ? 99 : 999) + " " + number(1, 9999));
        }
        int wide = between(1, 10);
        int high = between(1, 10);
        for (int k = between(0, full ? 5 : 4); k > 0; k--) {
            lines.add("panel " + number(1, random.nextBoolean() ? 3 : 9) + " " + number(1, random.nextBoolean() ? 3 : 9)
                    + " " + number(1, random.nextBoolean() ? 9 : 999));
        }
        for (int k = between(0, full ? 21 : 8); k > 0; k--) {
            lines.add("flaw " + number(0, wide - 1) + " " + number(0, high - 1));
        }
        if (random.nextInt(8) > 0) {
            lines.add("sheet " + wide + " " + high);
        }
        if (random.nextInt(8) > 0) {
            lines.add("net " + number(1, 6) + " " + number(1, 6));
        }
        java.util.Collections.shuffle(lines, random);
        tell(joined(lines), "film");
    }

    private String joined(List<String> lines) {
        StringBuilder text = new StringBuilder();
        for (String line : lines) {
            text.append(line).append(random.nextInt(9) == 0 ? " ;\n" : ";");
        }
        return text.toString();
    }

    private void tellRules() {
        String[] words = {"slides", "whole", "layers", "least", "rows", "fed", "darks", "worth", "cracks", "kept", "day"};
        int[] about = {0, 0, 3, 400, 3, 3, 10, 60, 4, 60, 8};
        List<String> lines = new ArrayList<>();
        for (int k = between(0, random.nextInt(8) == 0 ? 18 : 7); k > 0; k--) {
            StringBuilder line = new StringBuilder();
            int tests = between(0, random.nextInt(8) == 0 ? 5 : 2);
            for (int j = 0; j < tests; j++) {
                int word = random.nextInt(words.length);
                line.append(j == 0 ? "if " : " and ").append(random.nextInt(3) == 0 ? "not " : "").append(words[word]);
                if (word > 1) {
                    line.append("<>=".charAt(random.nextInt(3))).append(between(0, 2 * about[word]));
                }
            }
            line.append(tests > 0 ? ":" : "");
            int verb = random.nextInt(3);
            line.append(verb == 0 ? "bar" : verb == 1 ? "price " + between(0, 9999) : "less " + between(0, 99));
            lines.add(line.toString());
        }
        tell(joined(lines), "rules");
    }

    private void tellCracks() {
        for (int k = random.nextInt(4) == 0 ? between(0, 40) : between(0, 6); k > 0; k--) {
            call("crack", random.nextBoolean(), random.nextInt(6), random.nextInt(6));
        }
        call("cost", random.nextInt(10), between(1, 9));
        call("most");
        call("mend", 0);
        call("mend", 2);
        for (int row = 0; row < 6; row++) {
            call("fed", row);
            call("inCut", random.nextInt(4), row, random.nextInt(6));
        }
    }
}
