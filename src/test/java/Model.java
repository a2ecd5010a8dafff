import java.math.BigInteger;
import java.nio.charset.StandardCharsets;
import java.util.ArrayList;
import java.util.Arrays;
import java.util.HashMap;
import java.util.List;
import java.util.Map;

/**
 * The document done in the slowest and plainest way, with the Java library, as a second opinion for RandomRunsTest.
 * Nothing here is shared with BentScreens, and nothing is kept but what is told.
 */
final class Model {
    private static final int NONE = -1;

    /** A fraction, exact. */
    private static final class Part implements Comparable<Part> {
        final BigInteger over;
        final BigInteger under;

        Part(long over, long under) {
            this(BigInteger.valueOf(over), BigInteger.valueOf(under));
        }

        Part(BigInteger over, BigInteger under) {
            BigInteger g = over.gcd(under);
            this.over = over.divide(g);
            this.under = under.divide(g);
        }

        Part plus(Part o) {
            return new Part(over.multiply(o.under).add(o.over.multiply(under)), under.multiply(o.under));
        }

        Part minus(Part o) {
            return plus(new Part(o.over.negate(), o.under));
        }

        Part times(Part o) {
            return new Part(over.multiply(o.over), under.multiply(o.under));
        }

        Part by(Part o) {
            return o.over.signum() < 0
                    ? times(new Part(o.under.negate(), o.over.negate())) : times(new Part(o.under, o.over));
        }

        Part abs() {
            return new Part(over.abs(), under);
        }

        int cut() {
            return over.divide(under).intValueExact();
        }

        @Override
        public int compareTo(Part o) {
            return over.multiply(o.under).compareTo(o.over.multiply(under));
        }
    }

    private static Part whole(long n) {
        return new Part(n, 1);
    }

    /** All that is told. */
    private static final class State {
        byte[] tape = new byte[0];
        int fault;
        int place = NONE;
        List<int[]> layers = new ArrayList<>();
        List<int[]> lives = new ArrayList<>();
        List<int[]> folds = new ArrayList<>();
        List<int[]> kinds = new ArrayList<>();
        List<int[]> flaws = new ArrayList<>();
        int[] sheet = {1, 1};
        int[] net = {1, 1};
        int lines;
        int day;
        int view = NONE;
        List<int[]> cracks = new ArrayList<>();
        List<int[]> pictures = new ArrayList<>();
        int wet;
        List<int[]> hands = new ArrayList<>();
        List<int[]> tests = new ArrayList<>();
        List<Rule> rules = new ArrayList<>();

        State twin() {
            State s = new State();
            s.tape = tape.clone();
            s.fault = fault;
            s.place = place;
            s.layers = twin(layers);
            s.lives = twin(lives);
            s.folds = twin(folds);
            s.kinds = twin(kinds);
            s.flaws = twin(flaws);
            s.sheet = sheet.clone();
            s.net = net.clone();
            s.lines = lines;
            s.day = day;
            s.view = view;
            s.cracks = twin(cracks);
            s.pictures = twin(pictures);
            s.wet = wet;
            s.hands = twin(hands);
            s.tests = twin(tests);
            s.rules = new ArrayList<>(rules);
            return s;
        }

        private static List<int[]> twin(List<int[]> rows) {
            List<int[]> twin = new ArrayList<>();
            for (int[] row : rows) {
                twin.add(row.clone());
            }
            return twin;
        }
    }

    private static final class Rule {
        String verb;
        int number;
        int place;
        final List<Condition> conditions = new ArrayList<>();
    }

    private static final class Condition {
        boolean not;
        String word;
        String sign;
        int number;
        int place;
    }

    private record Token(String text, int place) {
        boolean isNumber() {
            return !text.isEmpty() && Character.isDigit(text.charAt(0)) && text.length() <= 4;
        }
    }

    /** Thrown where no text goes on. */
    private static final class NoText extends Exception {
        private static final long serialVersionUID = 1L;
        final int place;

        NoText(int place) {
            this.place = place;
        }
    }

    private State s = new State();
    private final State[] images = new State[3];

    // ---- texts ----

    int feed(int a, int b, int c, int d, int e) {
        if (s.tape.length + 20 > 500) {
            return NONE;
        }
        int from = s.tape.length;
        s.tape = Arrays.copyOf(s.tape, from + 20);
        java.nio.ByteBuffer.wrap(s.tape, from, 20).putInt(a).putInt(b).putInt(c).putInt(d).putInt(e);
        return s.tape.length;
    }

    int end(int n) {
        if (n < 0 || n > s.tape.length) {
            return NONE;
        }
        s.tape = Arrays.copyOf(s.tape, n);
        return n;
    }

    private static List<Token> tokensOf(byte[] tape) {
        String text = new String(tape, StandardCharsets.ISO_8859_1);
        List<Token> tokens = new ArrayList<>();
        java.util.regex.Matcher m = java.util.regex.Pattern
                .compile("[a-z]+|[0-9]+|[ \n]+|[\\x00-\\xff]").matcher(text);
        while (m.find()) {
            if (m.group().charAt(0) != ' ' && m.group().charAt(0) != '\n') {
                tokens.add(new Token(m.group(), m.start()));
            }
        }
        tokens.add(new Token("", tape.length));
        return tokens;
    }

    private static String wordIn(Token token, String... words) throws NoText {
        for (String word : words) {
            if (word.equals(token.text())) {
                return word;
            }
        }
        throw new NoText(token.place());
    }

    private static int numberIn(Token token) throws NoText {
        if (!token.isNumber()) {
            throw new NoText(token.place());
        }
        return Integer.parseInt(token.text());
    }

    int film() {
        List<Token> tokens = tokensOf(s.tape);
        s.tape = new byte[0];
        State next = s.twin();
        next.layers.clear();
        next.lives.clear();
        next.folds.clear();
        next.kinds.clear();
        next.flaws.clear();
        next.cracks.clear();
        next.pictures.clear();
        next.sheet = new int[] {1, 1};
        next.net = new int[] {1, 1};
        next.lines = 0;
        next.fault = 0;
        next.place = NONE;
        try {
            readFilm(tokens, next);
        } catch (NoText e) {
            s.fault = 1;
            s.place = e.place;
            return NONE;
        }
        if (next.fault != 0) {
            s.fault = next.fault;
            s.place = next.place;
            return NONE;
        }
        s = next;
        return s.lines;
    }

    private static void readFilm(List<Token> tokens, State next) throws NoText {
        Map<String, String> ranges = Map.of("layer", "1-99 1-99 1-99", "life", "0-99 1-999", "folds", "1-9999 1-9999",
                "panel", "1-10 1-10 1-999", "flaw", "0-9 0-9", "sheet", "1-10 1-10", "net", "1-6 1-6");
        Map<String, Integer> limits = Map.of("layer", 6, "life", 4, "folds", 6, "panel", 4, "flaw", 20, "sheet", 1,
                "net", 1);
        Map<String, Integer> told = new HashMap<>();
        List<int[]> faults = new ArrayList<>();
        List<int[]> flawPlaces = new ArrayList<>();
        int at = 0;
        while (!tokens.get(at).text().isEmpty()) {
            Token word = tokens.get(at++);
            wordIn(word, "layer", "life", "folds", "panel", "flaw", "sheet", "net");
            String[] range = ranges.get(word.text()).split(" ");
            int[] row = new int[range.length + (word.text().equals("layer") ? 1 : 0)];
            for (int k = 0; k < range.length; k++) {
                Token number = tokens.get(at++);
                row[k] = numberIn(number);
                String[] ends = range[k].split("-");
                if (row[k] < Integer.parseInt(ends[0]) || row[k] > Integer.parseInt(ends[1])) {
                    faults.add(new int[] {number.place(), 2});
                }
            }
            if (word.text().equals("layer")) {
                row[3] = wordIn(tokens.get(at++), "hold", "slide").equals("slide") ? 1 : 0;
            }
            wordIn(tokens.get(at++), ";");
            next.lines++;
            if (told.merge(word.text(), 1, Integer::sum) > limits.get(word.text())) {
                faults.add(new int[] {word.place(), 3});
            }
            switch (word.text()) {
                case "layer" -> next.layers.add(row);
                case "life" -> {
                    for (int[] life : next.lives) {
                        if (life[0] == row[0]) {
                            faults.add(new int[] {word.place(), 3});
                        }
                    }
                    next.lives.add(row);
                }
                case "folds" -> next.folds.add(row);
                case "panel" -> next.kinds.add(row);
                case "flaw" -> {
                    next.flaws.add(row);
                    flawPlaces.add(new int[] {word.place()});
                }
                case "sheet" -> next.sheet = row;
                default -> next.net = row;
            }
        }
        faults.sort((p, q) -> p[0] != q[0] ? p[0] - q[0] : p[1] - q[1]);
        if (!faults.isEmpty()) {
            next.place = faults.get(0)[0];
            next.fault = faults.get(0)[1];
            return;
        }
        for (int k = 0; k < next.flaws.size() && next.fault == 0; k++) {
            int[] flaw = next.flaws.get(k);
            if (flaw[0] >= next.sheet[0] || flaw[1] >= next.sheet[1]) {
                next.fault = 4;
                next.place = flawPlaces.get(k)[0];
            }
        }
    }

    int fault(int what) {
        return what == 0 ? s.fault : what == 1 ? s.place : NONE;
    }

    int rules() {
        List<Token> tokens = tokensOf(s.tape);
        s.tape = new byte[0];
        List<Rule> rules = new ArrayList<>();
        try {
            int at = 0;
            while (!tokens.get(at).text().isEmpty()) {
                Rule rule = new Rule();
                at = readRule(tokens, at, rule);
                rules.add(rule);
            }
        } catch (NoText e) {
            s.fault = 1;
            s.place = e.place;
            return NONE;
        }
        List<Integer> tooMany = new ArrayList<>();
        for (int k = 0; k < rules.size(); k++) {
            if (k >= 16) {
                tooMany.add(rules.get(k).place);
            }
            if (rules.get(k).conditions.size() > 4) {
                tooMany.add(rules.get(k).conditions.get(4).place);
            }
        }
        if (!tooMany.isEmpty()) {
            s.fault = 3;
            s.place = java.util.Collections.min(tooMany);
            return NONE;
        }
        s.fault = 0;
        s.place = NONE;
        s.rules = rules;
        return rules.size();
    }

    private static int readRule(List<Token> tokens, int from, Rule rule) throws NoText {
        int at = from;
        rule.place = tokens.get(at).place();
        if (tokens.get(at).text().equals("if")) {
            do {
                at++;
                Condition c = new Condition();
                c.place = tokens.get(at).place();
                if (tokens.get(at).text().equals("not")) {
                    c.not = true;
                    at++;
                }
                c.word = wordIn(tokens.get(at++), "slides", "whole", "layers", "least", "rows", "fed", "darks", "worth",
                        "cracks", "kept", "day");
                if (!c.word.equals("slides") && !c.word.equals("whole")) {
                    c.sign = wordIn(tokens.get(at++), "<", ">", "=");
                    c.number = numberIn(tokens.get(at++));
                }
                rule.conditions.add(c);
            } while (wordIn(tokens.get(at), "and", ":").equals("and"));
            at++;
        }
        rule.verb = wordIn(tokens.get(at++), "bar", "price", "less");
        if (!rule.verb.equals("bar")) {
            rule.number = numberIn(tokens.get(at++));
        }
        wordIn(tokens.get(at++), ";");
        return at;
    }

    private boolean holds(Rule rule) {
        for (Condition c : rule.conditions) {
            boolean holds;
            if (c.word.equals("slides")) {
                holds = false;
                for (int k = 0; k < s.layers.size() - 1; k++) {
                    holds |= s.layers.get(k)[3] == 1;
                }
            } else if (c.word.equals("whole")) {
                holds = seen().isEmpty();
            } else {
                int n = switch (c.word) {
                    case "layers" -> s.layers.size();
                    case "least" -> s.layers.isEmpty() ? 0 : least();
                    case "rows" -> s.net[0];
                    case "fed" -> most();
                    case "darks" -> darks();
                    case "worth" -> Math.min(9999, value(0, 0, s.sheet[0], s.sheet[1]));
                    case "cracks" -> seen().size();
                    case "kept" -> kept();
                    default -> s.day;
                };
                holds = c.sign.equals("<") ? n < c.number : c.sign.equals(">") ? n > c.number : n == c.number;
            }
            if (holds == c.not) {
                return false;
            }
        }
        return true;
    }

    int barred() {
        for (int k = 0; k < s.rules.size(); k++) {
            if (s.rules.get(k).verb.equals("bar") && holds(s.rules.get(k))) {
                return k;
            }
        }
        return NONE;
    }

    int price() {
        int price = 0;
        for (Rule rule : s.rules) {
            if (holds(rule)) {
                price += rule.verb.equals("price") ? rule.number : rule.verb.equals("less") ? -rule.number : 0;
            }
        }
        return Math.max(0, price);
    }

    // ---- the bend ----

    private static int bottomOf(List<int[]> layers, int layer) {
        int bottom = 0;
        for (int k = 0; k < layer; k++) {
            bottom += layers.get(k)[0];
        }
        return bottom;
    }

    private static int firstOf(List<int[]> layers, int layer) {
        int first = layer;
        while (first > 0 && layers.get(first - 1)[3] == 0) {
            first--;
        }
        return first;
    }

    private static Part neutralOf(List<int[]> layers, int layer) {
        int first = firstOf(layers, layer);
        int last = layer;
        while (last + 1 < layers.size() && layers.get(last)[3] == 0) {
            last++;
        }
        Part over = whole(0);
        Part under = whole(0);
        for (int k = first; k <= last; k++) {
            int[] l = layers.get(k);
            Part middle = whole(bottomOf(layers, k)).plus(new Part(l[0], 2));
            over = over.plus(whole((long) l[0] * l[1]).times(middle));
            under = under.plus(whole((long) l[0] * l[1]));
        }
        return over.by(under);
    }

    /** STRETCH in thousandths. */
    private static Part stretchOf(List<int[]> layers, int layer, int round) {
        Part neutral = neutralOf(layers, layer);
        Part low = whole(bottomOf(layers, layer)).minus(neutral);
        Part high = whole(bottomOf(layers, layer + 1)).minus(neutral);
        Part far = high.abs().compareTo(low.abs()) >= 0 ? high : low;
        return far.times(whole(1000)).by(whole(round));
    }

    private static int leastOf(List<int[]> layers) {
        int least = 1;
        for (int k = 0; k < layers.size(); k++) {
            Part need = stretchOf(layers, k, 1).abs().by(whole(layers.get(k)[2]));
            int round = need.cut();
            if (whole(round).compareTo(need) < 0) {
                round++;
            }
            least = Math.max(least, round);
        }
        return Math.min(least, 10000);
    }

    private boolean isLayer(int layer) {
        return layer >= 0 && layer < s.layers.size();
    }

    private static boolean isRound(int round) {
        return round >= 1 && round <= 9999;
    }

    int layer(int layer, int what) {
        if (!isLayer(layer) || what < 0 || what > 5) {
            return NONE;
        }
        return what == 4 ? bottomOf(s.layers, layer) : what == 5 ? firstOf(s.layers, layer) : s.layers.get(layer)[what];
    }

    int neutral(int layer) {
        return isLayer(layer) ? neutralOf(s.layers, layer).times(whole(1000)).cut() : NONE;
    }

    int stretch(int layer, int round) {
        return isLayer(layer) && isRound(round)
                ? stretchOf(s.layers, layer, round).times(whole(1000)).cut() : -2000000000;
    }

    boolean bears(int layer, int round) {
        return isLayer(layer) && isRound(round)
                && stretchOf(s.layers, layer, round).abs().compareTo(whole(s.layers.get(layer)[2])) <= 0;
    }

    int least() {
        return s.layers.isEmpty() ? NONE : leastOf(s.layers);
    }

    int worst(int round) {
        if (s.layers.isEmpty() || !isRound(round)) {
            return NONE;
        }
        int worst = 0;
        Part most = whole(-1);
        for (int k = 0; k < s.layers.size(); k++) {
            Part part = stretchOf(s.layers, k, round).abs().by(whole(s.layers.get(k)[2]));
            if (part.compareTo(most) > 0) {
                most = part;
                worst = k;
            }
        }
        return worst;
    }

    int order(int what) {
        if (s.layers.isEmpty() || what < 0 || what > s.layers.size()) {
            return NONE;
        }
        int[] best = {Integer.MAX_VALUE, 0, 0, 0, 0, 0, 0};
        tryOrders(new ArrayList<>(), best);
        return best[what];
    }

    private void tryOrders(List<Integer> row, int[] best) {
        if (row.size() == s.layers.size()) {
            List<int[]> turned = new ArrayList<>();
            for (int k = 0; k < row.size(); k++) {
                int[] layer = s.layers.get(row.get(k)).clone();
                layer[3] = s.layers.get(k)[3];
                turned.add(layer);
            }
            int round = leastOf(turned);
            if (round < best[0]) {
                best[0] = round;
                for (int k = 0; k < row.size(); k++) {
                    best[k + 1] = row.get(k);
                }
            }
            return;
        }
        for (int layer = 0; layer < s.layers.size(); layer++) {
            if (!row.contains(layer)) {
                row.add(layer);
                tryOrders(row, best);
                row.remove(row.size() - 1);
            }
        }
    }

    private Part tiredBy(int layer, long times, int round) {
        Part stretch = stretchOf(s.layers, layer, round).abs();
        int[] best = null;
        for (int[] life : s.lives) {
            if (whole(life[0]).compareTo(stretch) <= 0 && (best == null || life[0] > best[0])) {
                best = life;
            }
        }
        return best == null ? whole(0) : new Part(times, best[1]);
    }

    private Part tiredOf(int layer, int n) {
        Part sum = whole(0);
        for (int k = 0; k < n; k++) {
            sum = sum.plus(tiredBy(layer, s.folds.get(k)[0], s.folds.get(k)[1]));
        }
        return sum;
    }

    int tired(int layer, int n) {
        return isLayer(layer) && n >= 0 && n <= s.folds.size() ? tiredOf(layer, n).times(whole(1000)).cut() : NONE;
    }

    int cracks(int layer) {
        for (int n = 1; isLayer(layer) && n <= s.folds.size(); n++) {
            if (tiredOf(layer, n).compareTo(whole(1)) >= 0) {
                return n - 1;
            }
        }
        return NONE;
    }

    // ---- the net ----

    boolean day(int day) {
        if (day < s.day || day > 999) {
            return false;
        }
        s.day = day;
        return true;
    }

    boolean view(int day) {
        if (day != NONE && (day < 0 || day > s.day)) {
            return false;
        }
        s.view = day;
        return true;
    }

    private boolean isPart(boolean rail, int row, int column) {
        return row >= 0 && column >= 0 && row < s.net[0] - (rail ? 1 : 0) && column < s.net[1] - (rail ? 0 : 1);
    }

    private List<int[]> seen() {
        List<int[]> seen = new ArrayList<>();
        for (int[] crack : s.cracks) {
            if (s.view == NONE || crack[3] <= s.view) {
                seen.add(crack);
            }
        }
        return seen;
    }

    private static boolean hasCrack(List<int[]> cracks, boolean rail, int row, int column) {
        for (int[] crack : cracks) {
            if (crack[0] == (rail ? 1 : 0) && crack[1] == row && crack[2] == column) {
                return true;
            }
        }
        return false;
    }

    boolean crack(boolean rail, int row, int column) {
        if (!isPart(rail, row, column) || hasCrack(s.cracks, rail, row, column) || s.cracks.size() == 40) {
            return false;
        }
        s.cracks.add(new int[] {rail ? 1 : 0, row, column, s.day, 1});
        return true;
    }

    boolean leads(boolean rail, int row, int column) {
        return isPart(rail, row, column) && !hasCrack(seen(), rail, row, column);
    }

    /** What leads from where to where: POINTS, then the BEGINNING, then the END. */
    private int[][] arcs(List<int[]> cracks, boolean[] ends) {
        int rows = s.net[0];
        int columns = s.net[1];
        int[][] arcs = new int[rows * columns + 2][rows * columns + 2];
        for (int row = 0; row < rows; row++) {
            arcs[rows * columns][row * columns] = 1;
            if (ends[row]) {
                arcs[row * columns + columns - 1][rows * columns + 1] = 1;
            }
            for (int column = 0; column < columns; column++) {
                int point = row * columns + column;
                if (isPart(false, row, column) && !hasCrack(cracks, false, row, column)) {
                    arcs[point][point + 1] = 1;
                }
                if (isPart(true, row, column) && !hasCrack(cracks, true, row, column)) {
                    arcs[point][point + columns] = 1;
                    arcs[point + columns][point] = 1;
                }
            }
        }
        return arcs;
    }

    /** As many WAYS as can be; arcs hold what is left then. */
    private static int flow(int[][] arcs) {
        int ways = 0;
        while (push(arcs, arcs.length - 2, new boolean[arcs.length])) {
            ways++;
        }
        return ways;
    }

    private static boolean push(int[][] arcs, int from, boolean[] been) {
        if (from == arcs.length - 1) {
            return true;
        }
        been[from] = true;
        for (int to = 0; to < arcs.length; to++) {
            if (arcs[from][to] > 0 && !been[to] && push(arcs, to, been)) {
                arcs[from][to]--;
                arcs[to][from]++;
                return true;
            }
        }
        return false;
    }

    private boolean[] allRows() {
        boolean[] all = new boolean[s.net[0]];
        Arrays.fill(all, true);
        return all;
    }

    int most() {
        return flow(arcs(seen(), allRows()));
    }

    private boolean[] fedRows() {
        boolean[] fed = new boolean[s.net[0]];
        int size = 0;
        for (int row = 0; row < fed.length; row++) {
            fed[row] = true;
            fed[row] = flow(arcs(seen(), fed)) == size + 1;
            size += fed[row] ? 1 : 0;
        }
        return fed;
    }

    boolean fed(int row) {
        return row >= 0 && row < s.net[0] && fedRows()[row];
    }

    /** Small nets: every set of POINTS on the BEGINNING's side; else what the flow leaves. */
    private boolean[] cutSide() {
        int[][] arcs = arcs(seen(), allRows());
        int points = s.net[0] * s.net[1];
        boolean[] best = new boolean[points + 2];
        if (points > 9) {
            flow(arcs);
            push(arcs, points, best);
            return best;
        }
        int least = Integer.MAX_VALUE;
        for (int set = 0; set < 1 << points; set++) {
            boolean[] side = new boolean[points + 2];
            side[points] = true;
            for (int p = 0; p < points; p++) {
                side[p] = (set >> p & 1) == 1;
            }
            int across = 0;
            for (int p = 0; p < side.length; p++) {
                for (int q = 0; q < side.length; q++) {
                    across += side[p] && !side[q] ? arcs[p][q] : 0;
                }
            }
            int rank = across * 100 + Integer.bitCount(set);
            if (rank < least) {
                least = rank;
                best = side;
            }
        }
        return best;
    }

    private boolean cuts(boolean[] side, int sort, int row, int column) {
        int columns = s.net[1];
        int point = row * columns + column;
        switch (sort) {
            case 0:
                return leads(false, row, column) && side[point] && !side[point + 1];
            case 1:
                return leads(true, row, column) && side[point] != side[point + columns];
            case 2:
                return row >= 0 && row < s.net[0] && !side[row * columns];
            case 3:
                return row >= 0 && row < s.net[0] && side[row * columns + columns - 1];
            default:
                return false;
        }
    }

    int cut(int what) {
        if (what < 0 || what > 4) {
            return NONE;
        }
        boolean[] side = cutSide();
        int parts = 0;
        for (int sort = 0; sort < 4; sort++) {
            for (int row = 0; row < s.net[0]; row++) {
                for (int column = 0; column < (sort < 2 ? s.net[1] : 1); column++) {
                    parts += (what == 0 || what == sort + 1) && cuts(side, sort, row, column) ? 1 : 0;
                }
            }
        }
        return parts;
    }

    boolean inCut(int sort, int row, int column) {
        return cuts(cutSide(), sort, row, column);
    }

    boolean cost(int crack, int cost) {
        if (crack < 0 || crack >= s.cracks.size() || cost < 1 || cost > 99) {
            return false;
        }
        s.cracks.get(crack)[4] = cost;
        return true;
    }

    int mend(int what) {
        List<int[]> seen = seen();
        if (seen.size() > 10 || what < 0 || what > 2) {
            return NONE;
        }
        long best = Long.MAX_VALUE;
        for (int set = 0; set < 1 << seen.size(); set++) {
            List<int[]> rest = new ArrayList<>();
            int cost = 0;
            for (int k = 0; k < seen.size(); k++) {
                if ((set >> k & 1) == 1) {
                    cost += seen.get(k)[4];
                } else {
                    rest.add(seen.get(k));
                }
            }
            long rank = cost * 1000000L + Integer.bitCount(set) * 10000L + set;
            if (rank < best && flow(arcs(rest, allRows())) == s.net[0]) {
                best = rank;
            }
        }
        return (int) (what == 0 ? best / 1000000 : what == 1 ? best / 10000 % 100 : best % 10000);
    }

    // ---- the lamps ----

    private boolean isPoint(int row, int column) {
        return row >= 0 && row < s.net[0] && column >= 0 && column < s.net[1];
    }

    int picture(int a, int b, int c, int d, int light, int hours) {
        if (s.pictures.size() == 12 || !isPoint(a, c) || !isPoint(b, d) || a > b || c > d || light < 1 || light > 9
                || hours < 1 || hours > 999) {
            return NONE;
        }
        s.pictures.add(new int[] {a, b, c, d, light, hours});
        return s.pictures.size();
    }

    private int ageOf(int row, int column) {
        int age = 0;
        for (int[] p : s.pictures) {
            age += row >= p[0] && row <= p[1] && column >= p[2] && column <= p[3] ? p[4] * p[5] : 0;
        }
        return age;
    }

    int left(int row, int column) {
        return isPoint(row, column) ? Math.max(0, 1000 - ageOf(row, column) / 10) : NONE;
    }

    int unlike() {
        int least = 1000;
        int greatest = 0;
        for (int row = 0; row < s.net[0]; row++) {
            for (int column = 0; column < s.net[1]; column++) {
                least = Math.min(least, left(row, column));
                greatest = Math.max(greatest, left(row, column));
            }
        }
        return greatest - least;
    }

    boolean wet(int days) {
        if (days < 0 || days > 200) {
            return false;
        }
        s.wet = days;
        return true;
    }

    int damp(int row, int column) {
        if (!isPoint(row, column)) {
            return NONE;
        }
        int[][] damp = new int[s.net[0] + 2][s.net[1] + 2];
        for (int day = 0; day < s.wet; day++) {
            int[][] then = new int[s.net[0] + 2][s.net[1] + 2];
            for (int r = 0; r < damp.length; r++) {
                for (int c = 0; c < damp[r].length; c++) {
                    if (!isPoint(r - 1, c - 1)) {
                        damp[r][c] = 100;
                    }
                }
            }
            for (int r = 1; r <= s.net[0]; r++) {
                for (int c = 1; c <= s.net[1]; c++) {
                    then[r][c] = (4 * damp[r][c] + damp[r - 1][c] + damp[r + 1][c] + damp[r][c - 1] + damp[r][c + 1]) / 8;
                }
            }
            damp = then;
        }
        return damp[row + 1][column + 1];
    }

    boolean dark(int row, int column) {
        return isPoint(row, column) && (left(row, column) == 0 || !fed(row) || damp(row, column) >= 50);
    }

    int darks() {
        int darks = 0;
        boolean[] fed = fedRows();
        for (int row = 0; row < s.net[0]; row++) {
            for (int column = 0; column < s.net[1]; column++) {
                darks += left(row, column) == 0 || !fed[row] || damp(row, column) >= 50 ? 1 : 0;
            }
        }
        return darks;
    }

    int lasts(int shift) {
        if (shift < 0 || shift > 5 || s.pictures.isEmpty()) {
            return NONE;
        }
        int[][] ages = new int[s.net[0]][s.net[1]];
        for (int n = 0; n < 1000; n++) {
            for (int row = 0; row < s.net[0]; row++) {
                for (int column = 0; column < s.net[1]; column++) {
                    ages[row][column] += ageOf(row, (column + n * shift) % s.net[1]);
                    if (ages[row][column] >= 10000) {
                        return n;
                    }
                }
            }
        }
        return 1000;
    }

    int shift() {
        int best = 0;
        for (int shift = 1; shift <= 5; shift++) {
            best = lasts(shift) > lasts(best) ? shift : best;
        }
        return s.pictures.isEmpty() ? NONE : best;
    }

    // ---- the sheet ----

    private final Map<String, Integer> worths = new HashMap<>();

    private int panelKind(int x, int y, int wide, int high) {
        for (int[] flaw : s.flaws) {
            if (flaw[0] >= x && flaw[0] < x + wide && flaw[1] >= y && flaw[1] < y + high) {
                return NONE;
            }
        }
        int best = NONE;
        for (int k = 0; k < s.kinds.size(); k++) {
            int[] kind = s.kinds.get(k);
            if (kind[0] == wide && kind[1] == high && (best == NONE || kind[2] > s.kinds.get(best)[2])) {
                best = k;
            }
        }
        return best;
    }

    private int worth(int x, int y, int wide, int high) {
        String key = x + "," + y + "," + wide + "," + high;
        if (worths.containsKey(key)) {
            return worths.get(key);
        }
        int kind = panelKind(x, y, wide, high);
        int best = kind == NONE ? 0 : s.kinds.get(kind)[2];
        for (int at = 1; at < wide; at++) {
            best = Math.max(best, worth(x, y, at, high) + worth(x + at, y, wide - at, high));
        }
        for (int at = 1; at < high; at++) {
            best = Math.max(best, worth(x, y, wide, at) + worth(x, y + at, wide, high - at));
        }
        worths.put(key, best);
        return best;
    }

    private void plan(int x, int y, int wide, int high, List<int[]> plan) {
        int worth = worth(x, y, wide, high);
        if (worth == 0) {
            return;
        }
        int kind = panelKind(x, y, wide, high);
        if (kind != NONE && s.kinds.get(kind)[2] == worth) {
            plan.add(new int[] {kind, x, y});
            return;
        }
        for (int at = 1; at < wide; at++) {
            if (worth(x, y, at, high) + worth(x + at, y, wide - at, high) == worth) {
                plan(x, y, at, high, plan);
                plan(x + at, y, wide - at, high, plan);
                return;
            }
        }
        for (int at = 1; at < high; at++) {
            if (worth(x, y, wide, at) + worth(x, y + at, wide, high - at) == worth) {
                plan(x, y, wide, at, plan);
                plan(x, y + at, wide, high - at, plan);
                return;
            }
        }
    }

    int value(int x, int y, int wide, int high) {
        if (x < 0 || y < 0 || wide < 1 || high < 1 || (long) x + wide > s.sheet[0] || (long) y + high > s.sheet[1]) {
            return NONE;
        }
        worths.clear();
        return worth(x, y, wide, high);
    }

    private List<int[]> thePlan() {
        worths.clear();
        List<int[]> plan = new ArrayList<>();
        plan(0, 0, s.sheet[0], s.sheet[1], plan);
        return plan;
    }

    int panels() {
        return thePlan().size();
    }

    int panel(int k, int what) {
        List<int[]> plan = thePlan();
        return k < 0 || k >= plan.size() || what < 0 || what > 2 ? NONE : plan.get(k)[what];
    }

    // ---- the hands ----

    int hand(int films, int folds, int round) {
        if (s.hands.size() == 4 || films < 1 || films > 999 || folds < 1 || folds > 999 || !isRound(round)) {
            return NONE;
        }
        s.hands.add(new int[] {films, folds, round});
        return s.hands.size() - 1;
    }

    boolean broken(int hand, int years) {
        if (hand < 0 || hand >= s.hands.size() || years < 0 || years > 30) {
            return false;
        }
        int[] h = s.hands.get(hand);
        for (int layer = 0; layer < s.layers.size(); layer++) {
            Part sum = tiredOf(layer, s.folds.size()).plus(tiredBy(layer, 365L * years * h[1], h[2]));
            if (sum.compareTo(whole(1)) >= 0) {
                return true;
            }
        }
        return false;
    }

    int share(int years) {
        if (years < 0 || years > 30) {
            return NONE;
        }
        int broken = 0;
        int all = 0;
        for (int k = 0; k < s.hands.size(); k++) {
            all += s.hands.get(k)[0];
            broken += broken(k, years) ? s.hands.get(k)[0] : 0;
        }
        return all == 0 ? 0 : 1000 * broken / all;
    }

    int promise(int p) {
        int best = NONE;
        for (int years = 0; p >= 0 && p <= 1000 && years <= 30; years++) {
            boolean fine = true;
            for (int y = 0; fine && y <= years; y++) {
                fine = share(y) <= p;
            }
            best = fine ? years : best;
        }
        return best;
    }

    // ---- the laws ----

    int test(int speed, int folds, int films, int cracked) {
        if (s.tests.size() == 12 || speed < 1 || speed > 9 || folds < 1 || folds > 999999 || films < 1 || films > 99
                || cracked < 0 || cracked > films) {
            return NONE;
        }
        s.tests.add(new int[] {speed, folds, films, cracked});
        return s.tests.size() - 1;
    }

    private static boolean keeps(int[] law, int[] test) {
        long unit = law[0] * Math.round(Math.pow(10 - test[0], law[1]));
        return (test[3] == 0 || test[1] >= 8 * unit) && (test[3] == test[2] || test[1] < 12 * unit);
    }

    private static List<int[]> lawsBy(List<int[]> tests) {
        List<int[]> laws = new ArrayList<>();
        for (int b = 0; b <= 3; b++) {
            for (int a = 1; a <= 60; a++) {
                int[] law = {a, b};
                if (tests.stream().allMatch(test -> keeps(law, test))) {
                    laws.add(law);
                }
            }
        }
        return laws;
    }

    int kept() {
        return lawsBy(s.tests).size();
    }

    int law(int k) {
        List<int[]> laws = lawsBy(s.tests);
        return k < 0 || k >= laws.size() ? NONE : 100 * laws.get(k)[1] + laws.get(k)[0];
    }

    int span(int speed, boolean most) {
        List<int[]> laws = lawsBy(s.tests);
        if (speed < 1 || speed > 9 || laws.isEmpty()) {
            return NONE;
        }
        int[] folds = laws.stream().mapToInt(law -> (int) (law[0] * Math.round(Math.pow(10 - speed, law[1])))).toArray();
        return most ? 12 * Arrays.stream(folds).max().getAsInt() : 8 * Arrays.stream(folds).min().getAsInt();
    }

    int quarrel(int k) {
        if (kept() > 0 || k < 0) {
            return NONE;
        }
        List<int[]> best = new ArrayList<>();
        for (int size = 1; best.isEmpty(); size++) {
            tryTests(new ArrayList<>(), 0, size, best);
        }
        return k < best.get(0).length ? best.get(0)[k] : NONE;
    }

    private void tryTests(List<Integer> row, int from, int size, List<int[]> best) {
        if (!best.isEmpty()) {
            return;
        }
        if (row.size() == size) {
            List<int[]> tests = new ArrayList<>();
            row.forEach(k -> tests.add(s.tests.get(k)));
            if (lawsBy(tests).isEmpty()) {
                best.add(row.stream().mapToInt(Integer::intValue).toArray());
            }
            return;
        }
        for (int k = from; k < s.tests.size(); k++) {
            row.add(k);
            tryTests(row, k + 1, size, best);
            row.remove(row.size() - 1);
        }
    }

    int next(int what) {
        List<int[]> laws = lawsBy(s.tests);
        int[] best = {0, 0, Integer.MAX_VALUE};
        for (int v = 1; v <= 9; v++) {
            for (int j = 0; j <= 14; j++) {
                int r = 10 * (1 << j);
                int[] cracked = {v, r, 1, 1};
                int[] not = {v, r, 1, 0};
                int greater = (int) Math.max(laws.stream().filter(law -> keeps(law, cracked)).count(),
                        laws.stream().filter(law -> keeps(law, not)).count());
                if (greater < best[2]) {
                    best = new int[] {v, r, greater};
                }
            }
        }
        return what < 0 || what > 2 ? NONE : best[what];
    }

    // ---- all that is told ----

    int count(int what) {
        int[] counts = {s.layers.size(), s.lives.size(), s.folds.size(), s.kinds.size(), s.flaws.size(), s.net[0],
            s.net[1], s.sheet[0], s.sheet[1], s.cracks.size(), s.pictures.size(), s.day, s.view, s.wet, s.lines,
            s.hands.size(), s.tests.size(), s.rules.size(), seen().size()};
        return what < 0 || what >= counts.length ? -2 : counts[what];
    }

    boolean image(int k) {
        if (k < 0 || k > 2) {
            return false;
        }
        images[k] = s.twin();
        return true;
    }

    boolean again(int k) {
        if (k < 0 || k > 2 || images[k] == null) {
            return false;
        }
        s = images[k].twin();
        return true;
    }
}
