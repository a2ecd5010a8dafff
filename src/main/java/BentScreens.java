import java.util.Arrays;

/**
 * Screens that bend. What each call answers is told by the promises of DOC.md;
 * the words in capitals below are the terms of that document.
 */
public final class BentScreens {
    public static final int NONE = -1;

    private static final int NO_STRETCH = -2000000000;
    private static final int NO_COUNT = -2;
    private static final int IMAGES = 3;
    private static final int MOST_ROUND = 9999;
    private static final int MOST_DAY = 999;
    private static final int MOST_DAYS_WET = 200;
    private static final int MOST_YEARS = 30;
    private static final int MOST_SHIFT = 5;
    private static final int MOST_MENDED = 10;
    private static final int MOST_WORTH_TOLD = 9999;
    private static final int DAYS_OF_A_YEAR = 365;
    private static final int WHOLE = 1000;

    private final Told told = new Told();
    private final Told[] images = new Told[IMAGES];
    private final FilmText filmText = new FilmText(told);
    private final RulesText rulesText = new RulesText(told);
    private final Bend bend = new Bend(told.film);
    private final Ways ways = new Ways(told);
    private final Lamps lamps = new Lamps(told);
    private final Sheet sheet = new Sheet(told.film);
    private final Laws laws = new Laws(told.tests);
    private final int[] measures = new int[RulesText.MEASURES];
    private final boolean[] lineHolds = new boolean[RulesText.MOST_LINES];

    public BentScreens() {
    }

    // ---- the tape and its texts ----

    public int feed(int a, int b, int c, int d, int e) {
        if (told.tapeLength > Told.TAPE - 20) {
            return NONE;
        }
        told.append(a);
        told.append(b);
        told.append(c);
        told.append(d);
        told.append(e);
        return told.tapeLength;
    }

    public int end(int n) {
        if (n < 0 || n > told.tapeLength) {
            return NONE;
        }
        told.tapeLength = n;
        return n;
    }

    public int film() {
        int lines = filmText.readFilm();
        if (lines != NONE) {
            forgetFilm();
        }
        return lines;
    }

    public int fault(int what) {
        switch (what) {
            case 0:
                return told.fault;
            case 1:
                return told.faultPlace;
            default:
                return NONE;
        }
    }

    // ---- the bend ----

    public int layer(int layer, int what) {
        if (!told.film.layers.has(layer)) {
            return NONE;
        }
        bend.layAsTold();
        switch (what) {
            case 4:
                return bend.bottom[layer];
            case 5:
                return bend.first[layer];
            default:
                return told.film.layers.get(layer, what);
        }
    }

    public int neutral(int layer) {
        if (!told.film.layers.has(layer)) {
            return NONE;
        }
        bend.layAsTold();
        return bend.neutralThousandths(layer);
    }

    public int stretch(int layer, int round) {
        if (!told.film.layers.has(layer) || !isRound(round)) {
            return NO_STRETCH;
        }
        bend.layAsTold();
        return bend.stretchMillionths(layer, round);
    }

    public boolean bears(int layer, int round) {
        if (!told.film.layers.has(layer) || !isRound(round)) {
            return false;
        }
        bend.layAsTold();
        return bend.canBear(layer, round);
    }

    public int least() {
        if (told.film.layers.size == 0) {
            return NONE;
        }
        bend.layAsTold();
        return bend.leastRound();
    }

    public int worst(int round) {
        if (told.film.layers.size == 0 || !isRound(round)) {
            return NONE;
        }
        bend.layAsTold();
        return bend.worstPlace();
    }

    public int order(int what) {
        int layers = told.film.layers.size;
        if (layers == 0 || what < 0 || what > layers) {
            return NONE;
        }
        bend.findOrder();
        return what == 0 ? bend.orderRound : bend.bestOrder[what - 1];
    }

    // ---- layers that tire ----

    public int tired(int layer, int n) {
        Rows folds = told.film.folds;
        if (!told.film.layers.has(layer) || n < 0 || n > folds.size) {
            return NONE;
        }
        bend.layAsTold();
        bend.restWear();
        for (int k = 0; k < n; k++) {
            bend.wear(layer, folds.get(k, Film.TIMES), folds.get(k, Film.ROUND));
        }
        return bend.wornThousandths();
    }

    public int cracks(int layer) {
        Rows folds = told.film.folds;
        if (!told.film.layers.has(layer)) {
            return NONE;
        }
        bend.layAsTold();
        bend.restWear();
        for (int k = 0; k < folds.size; k++) {
            bend.wear(layer, folds.get(k, Film.TIMES), folds.get(k, Film.ROUND));
            if (bend.isWornOut()) {
                return k;
            }
        }
        return NONE;
    }

    // ---- the net ----

    public boolean day(int day) {
        if (day < told.day || day > MOST_DAY) {
            return false;
        }
        told.day = day;
        return true;
    }

    public boolean view(int day) {
        if (day < NONE || day > told.day) {
            return false;
        }
        told.view = day;
        ways.forget();
        return true;
    }

    public boolean crack(boolean rail, int row, int column) {
        Rows cracks = told.cracks;
        if (cracks.isFull() || !hasPart(rail, row, column) || told.findCrack(rail, row, column) != NONE) {
            return false;
        }
        int k = cracks.grow();
        cracks.put(k, Told.CRACK_RAIL, rail ? 1 : 0);
        cracks.put(k, Told.CRACK_ROW, row);
        cracks.put(k, Told.CRACK_COLUMN, column);
        cracks.put(k, Told.CRACK_DAY, told.day);
        cracks.put(k, Told.CRACK_COST, 1);
        ways.forget();
        return true;
    }

    public boolean leads(boolean rail, int row, int column) {
        if (!hasPart(rail, row, column)) {
            return false;
        }
        int crack = told.findCrack(rail, row, column);
        return crack == NONE || crack >= told.cracksInView();
    }

    public int most() {
        ways.refresh();
        return ways.most;
    }

    public boolean fed(int row) {
        if (row < 0 || row >= told.film.netRows) {
            return false;
        }
        ways.refresh();
        return ways.lastUsed[row];
    }

    public int cut(int what) {
        if (what < 0 || what > 4) {
            return NONE;
        }
        ways.refresh();
        return what == 0 ? ways.most : ways.countCut(what - 1);
    }

    public boolean inCut(int sort, int row, int column) {
        ways.refresh();
        if (sort == Ways.FIRST_LINE || sort == Ways.LAST_LINE) {
            return row >= 0 && row < told.film.netRows && ways.cuts(sort, row, 0);
        }
        boolean rail = sort == Ways.RAIL;
        return (rail || sort == Ways.LINE) && hasPart(rail, row, column) && ways.cuts(sort, row, column);
    }

    public boolean cost(int crack, int cost) {
        if (!told.cracks.has(crack) || !isIn(cost, 1, 99)) {
            return false;
        }
        told.cracks.put(crack, Told.CRACK_COST, cost);
        return true;
    }

    public int mend(int what) {
        if (told.cracksInView() > MOST_MENDED) {
            return NONE;
        }
        int mended = cracksToMend();
        switch (what) {
            case 0:
                return costOf(mended);
            case 1:
                return Integer.bitCount(mended);
            case 2:
                return mended;
            default:
                return NONE;
        }
    }

    // ---- the lamps ----

    public int picture(int a, int b, int c, int d, int light, int hours) {
        Rows pictures = told.pictures;
        boolean there = a >= 0 && a <= b && b < told.film.netRows && c >= 0 && c <= d && d < told.film.netColumns;
        if (pictures.isFull() || !there || !isIn(light, 1, 9) || !isIn(hours, 1, 999)) {
            return NONE;
        }
        int k = pictures.grow();
        pictures.put(k, Told.PICTURE_TOP, a);
        pictures.put(k, Told.PICTURE_BOTTOM, b);
        pictures.put(k, Told.PICTURE_LEFT, c);
        pictures.put(k, Told.PICTURE_RIGHT, d);
        pictures.put(k, Told.PICTURE_AGING, light * hours);
        lamps.forgetAges();
        return pictures.size;
    }

    public int left(int row, int column) {
        if (!hasPoint(row, column)) {
            return NONE;
        }
        lamps.refreshAges();
        return lamps.leftOf(row * Film.SIDE + column);
    }

    public int unlike() {
        lamps.refreshAges();
        return lamps.leftSpread();
    }

    public boolean wet(int days) {
        if (!isIn(days, 0, MOST_DAYS_WET)) {
            return false;
        }
        told.wetDays = days;
        lamps.forgetDamp();
        return true;
    }

    public int damp(int row, int column) {
        if (!hasPoint(row, column)) {
            return NONE;
        }
        lamps.refreshDamp();
        return lamps.damp[row * Film.SIDE + column];
    }

    public boolean dark(int row, int column) {
        if (!hasPoint(row, column)) {
            return false;
        }
        refreshLamps();
        return isDark(row, column);
    }

    public int darks() {
        refreshLamps();
        return countDark();
    }

    public int lasts(int shift) {
        if (!isIn(shift, 0, MOST_SHIFT) || told.pictures.size == 0) {
            return NONE;
        }
        lamps.refreshAges();
        return lamps.roundsWith(shift);
    }

    public int shift() {
        if (told.pictures.size == 0) {
            return NONE;
        }
        lamps.refreshAges();
        int best = 0;
        int bestRounds = lamps.roundsWith(0);
        for (int shift = 1; shift <= MOST_SHIFT; shift++) {
            int rounds = lamps.roundsWith(shift);
            if (rounds > bestRounds) {
                best = shift;
                bestRounds = rounds;
            }
        }
        return best;
    }

    // ---- the sheet ----

    public int value(int x, int y, int wide, int high) {
        boolean across = x >= 0 && wide >= 1 && wide <= told.film.sheetWide && x <= told.film.sheetWide - wide;
        boolean down = y >= 0 && high >= 1 && high <= told.film.sheetHigh && y <= told.film.sheetHigh - high;
        if (!across || !down) {
            return NONE;
        }
        sheet.refreshWorth();
        return sheet.worthOf(x, y, wide, high);
    }

    public int panels() {
        sheet.refreshPlan();
        return sheet.plan.size;
    }

    public int panel(int k, int what) {
        sheet.refreshPlan();
        return sheet.plan.get(k, what);
    }

    // ---- the hands ----

    public int hand(int films, int folds, int round) {
        Rows hands = told.hands;
        if (hands.isFull() || !isIn(films, 1, 999) || !isIn(folds, 1, 999) || !isRound(round)) {
            return NONE;
        }
        int k = hands.grow();
        hands.put(k, Told.HAND_FILMS, films);
        hands.put(k, Told.HAND_FOLDS, folds);
        hands.put(k, Told.HAND_ROUND, round);
        return k;
    }

    public boolean broken(int hand, int years) {
        if (!told.hands.has(hand) || !isIn(years, 0, MOST_YEARS)) {
            return false;
        }
        bend.layAsTold();
        return isBroken(hand, years);
    }

    public int share(int years) {
        if (!isIn(years, 0, MOST_YEARS)) {
            return NONE;
        }
        bend.layAsTold();
        return brokenShare(years);
    }

    public int promise(int p) {
        if (!isIn(p, 0, WHOLE)) {
            return NONE;
        }
        bend.layAsTold();
        for (int years = 0; years <= MOST_YEARS; years++) {
            if (brokenShare(years) > p) {
                // Behind 0 YEARS this is NONE itself.
                return years - 1;
            }
        }
        return MOST_YEARS;
    }

    // ---- the laws of folds ----

    public int test(int speed, int folds, int films, int cracked) {
        Rows tests = told.tests;
        boolean fine = isIn(speed, 1, Laws.MOST_SPEED) && isIn(folds, 1, 999999) && isIn(films, 1, 99)
                && isIn(cracked, 0, films);
        if (tests.isFull() || !fine) {
            return NONE;
        }
        int k = tests.grow();
        tests.put(k, Told.TEST_SPEED, speed);
        tests.put(k, Told.TEST_FOLDS, folds);
        tests.put(k, Told.TEST_FILMS, films);
        tests.put(k, Told.TEST_CRACKED, cracked);
        laws.forget();
        return k;
    }

    public int kept() {
        laws.refresh();
        return laws.keptLaws;
    }

    public int law(int k) {
        laws.refresh();
        if (k < 0 || k >= laws.keptLaws) {
            return NONE;
        }
        return laws.keptAt(k);
    }

    public int span(int speed, boolean most) {
        laws.refresh();
        if (!isIn(speed, 1, Laws.MOST_SPEED) || laws.keptLaws == 0) {
            return NONE;
        }
        return most ? laws.spanEnd(speed) : laws.spanStart(speed);
    }

    public int quarrel(int k) {
        laws.refresh();
        if (k < 0 || laws.keptLaws > 0) {
            return NONE;
        }
        laws.refreshQuarrel();
        return laws.quarrelAt(k);
    }

    public int next(int what) {
        laws.refresh();
        laws.refreshNext();
        switch (what) {
            case 0:
                return laws.nextSpeed;
            case 1:
                return laws.nextFolds;
            case 2:
                return laws.nextNumber;
            default:
                return NONE;
        }
    }

    // ---- the rules ----

    public int rules() {
        return rulesText.readRules();
    }

    public int barred() {
        measureAll();
        judgeLines();
        for (int line = 0; line < told.ruleLines.size; line++) {
            if (lineHolds[line] && told.ruleLines.get(line, RulesText.VERB) == RulesText.BAR) {
                return line;
            }
        }
        return NONE;
    }

    public int price() {
        measureAll();
        judgeLines();
        int sum = 0;
        for (int line = 0; line < told.ruleLines.size; line++) {
            if (lineHolds[line]) {
                int number = told.ruleLines.get(line, RulesText.NUMBER);
                sum += told.ruleLines.get(line, RulesText.VERB) == RulesText.LESS ? -number : number;
            }
        }
        return Math.max(sum, 0);
    }

    // ---- all that is told ----

    public int count(int what) {
        switch (what) {
            case 9:
                return told.cracks.size;
            case 10:
                return told.pictures.size;
            case 11:
                return told.day;
            case 12:
                return told.view;
            case 13:
                return told.wetDays;
            case 15:
                return told.hands.size;
            case 16:
                return told.tests.size;
            case 17:
                return told.ruleLines.size;
            case 18:
                return told.cracksInView();
            default:
                return countOfFilm(what);
        }
    }

    public boolean image(int k) {
        if (!isIn(k, 0, IMAGES - 1)) {
            return false;
        }
        if (images[k] == null) {
            images[k] = new Told();
        }
        images[k].copy(told);
        return true;
    }

    public boolean again(int k) {
        if (!isIn(k, 0, IMAGES - 1) || images[k] == null) {
            return false;
        }
        told.copy(images[k]);
        forgetFilm();
        laws.forget();
        return true;
    }

    // ---- parts of the calls above ----

    private static boolean isIn(int number, int least, int most) {
        return number >= least && number <= most;
    }

    private static boolean isRound(int round) {
        return isIn(round, 1, MOST_ROUND);
    }

    /** No divisor here can be 0 as long as the film is one that could be told; this keeps it so for all. */
    private static long divide(long over, long under) {
        return under == 0 ? 0 : over / under;
    }

    private boolean hasPoint(int row, int column) {
        return row >= 0 && row < told.film.netRows && column >= 0 && column < told.film.netColumns;
    }

    private boolean hasPart(boolean rail, int row, int column) {
        return rail
                ? hasPoint(row, column) && row + 1 < told.film.netRows
                : hasPoint(row, column) && column + 1 < told.film.netColumns;
    }

    /**
     * As many WAYS as ROWS need every LINE from each COLUMN to the next, and then each goes straight on: all
     * LINES must lead, and no RAIL. So there is but one set, whatever it costs.
     */
    private int cracksToMend() {
        int set = 0;
        for (int k = 0; k < told.cracksInView() && k < MOST_MENDED; k++) {
            if (told.cracks.get(k, Told.CRACK_RAIL) == 0) {
                set |= 1 << k;
            }
        }
        return set;
    }

    private int costOf(int set) {
        int cost = 0;
        for (int k = 0; k < told.cracks.size && k < MOST_MENDED; k++) {
            if ((set >> k & 1) == 1) {
                cost += told.cracks.get(k, Told.CRACK_COST);
            }
        }
        return cost;
    }

    private void forgetFilm() {
        bend.forgetOrder();
        ways.forget();
        lamps.forgetAges();
        lamps.forgetDamp();
        sheet.forget();
    }

    private void refreshLamps() {
        ways.refresh();
        lamps.refreshAges();
        lamps.refreshDamp();
    }

    private boolean isDark(int row, int column) {
        int point = row * Film.SIDE + column;
        return !ways.lastUsed[row] || lamps.leftOf(point) == 0 || lamps.isDamp(point);
    }

    private int countDark() {
        int dark = 0;
        for (int row = 0; row < told.film.netRows; row++) {
            for (int column = 0; column < told.film.netColumns; column++) {
                if (isDark(row, column)) {
                    dark++;
                }
            }
        }
        return dark;
    }

    private boolean isBroken(int hand, int years) {
        long folds = (long) DAYS_OF_A_YEAR * years * told.hands.get(hand, Told.HAND_FOLDS);
        return bend.breaksBehind(folds, told.hands.get(hand, Told.HAND_ROUND));
    }

    private int brokenShare(int years) {
        int broken = 0;
        int all = 0;
        for (int hand = 0; hand < told.hands.size; hand++) {
            int films = told.hands.get(hand, Told.HAND_FILMS);
            all += films;
            if (isBroken(hand, years)) {
                broken += films;
            }
        }
        return (int) divide((long) WHOLE * broken, all);
    }

    /** All that RULES may ask is measured first, so that the judging of a LINE goes no deeper. */
    private void measureAll() {
        ways.refresh();
        lamps.refreshAges();
        lamps.refreshDamp();
        laws.refresh();
        sheet.refreshWorth();
        bend.layAsTold();
        Film film = told.film;
        measures[RulesText.SLIDES] = film.slidesAnywhere() ? 1 : 0;
        measures[RulesText.IS_WHOLE] = told.cracksInView() == 0 ? 1 : 0;
        measures[RulesText.LAYERS] = film.layers.size;
        measures[RulesText.LEAST] = film.layers.size == 0 ? 0 : bend.leastRound();
        measures[RulesText.ROWS] = film.netRows;
        measures[RulesText.FED] = ways.most;
        measures[RulesText.DARKS] = countDark();
        measures[RulesText.WORTH] = Math.min(MOST_WORTH_TOLD, sheet.worthOf(0, 0, film.sheetWide, film.sheetHigh));
        measures[RulesText.CRACKS] = told.cracksInView();
        measures[RulesText.KEPT] = laws.keptLaws;
        measures[RulesText.DAY] = told.day;
    }

    private void judgeLines() {
        for (int line = 0; line < lineHolds.length; line++) {
            lineHolds[line] = true;
        }
        for (int k = 0; k < told.ruleTests.size; k++) {
            int line = told.ruleTests.get(k, RulesText.OF_LINE);
            if (line >= 0 && line < lineHolds.length && !testHolds(k)) {
                lineHolds[line] = false;
            }
        }
    }

    private boolean testHolds(int k) {
        int measure = told.ruleTests.get(k, RulesText.MEASURE);
        if (measure < 0 || measure >= measures.length) {
            return false;
        }
        int number = told.ruleTests.get(k, RulesText.BOUND);
        boolean holds;
        switch (told.ruleTests.get(k, RulesText.SIGN)) {
            case '<':
                holds = measures[measure] < number;
                break;
            case '>':
                holds = measures[measure] > number;
                break;
            default:
                holds = measures[measure] == number;
                break;
        }
        return holds != (told.ruleTests.get(k, RulesText.NOT) == 1);
    }

    private int countOfFilm(int what) {
        Film film = told.film;
        switch (what) {
            case 5:
                return film.netRows;
            case 6:
                return film.netColumns;
            case 7:
                return film.sheetWide;
            case 8:
                return film.sheetHigh;
            case 14:
                return film.lines;
            default:
                Rows rows = film.rowsOf(what);
                return rows == null ? NO_COUNT : rows.size;
        }
    }

    // ---- what is told ----

    /** Rows of numbers, all as wide, at most so many: every list that is told is one of these. */
    private static final class Rows {
        final int limit;
        final int wide;
        final int[] cells;
        int size;

        Rows(int limit, int wide) {
            this.limit = limit;
            this.wide = wide;
            this.cells = new int[limit * wide];
        }

        boolean isFull() {
            return size >= limit;
        }

        boolean has(int row) {
            return row >= 0 && row < size;
        }

        int get(int row, int what) {
            return row >= 0 && row < size && what >= 0 && what < wide ? cells[row * wide + what] : NONE;
        }

        void put(int row, int what, int number) {
            if (has(row) && what >= 0 && what < wide) {
                cells[row * wide + what] = number;
            }
        }

        /** A new row behind the others; its numbers are to be put then. */
        int grow() {
            if (isFull()) {
                return NONE;
            }
            size++;
            return size - 1;
        }

        void clear() {
            size = 0;
        }

        void copy(Rows from) {
            if (from.limit == limit && from.wide == wide) {
                size = from.size;
                System.arraycopy(from.cells, 0, cells, 0, size * wide);
            }
        }
    }

    /** What the text of a FILM tells. */
    private static final class Film {
        static final int SIDE = 6;
        static final int POINTS = 36;
        static final int MOST_LAYERS = 6;
        static final int MOST_LIVES = 4;
        static final int MOST_FOLDS = 6;
        static final int MOST_KINDS = 4;
        static final int MOST_FLAWS = 20;

        // the sorts of LINES; the first five are rows
        static final int LAYER = 0;
        static final int LIFE = 1;
        static final int FOLDS = 2;
        static final int PANEL = 3;
        static final int FLAW = 4;
        static final int SHEET = 5;
        static final int NET = 6;

        // the places of the numbers in a row
        static final int THICK = 0;
        static final int STIFF = 1;
        static final int MARK = 2;
        static final int SLIDES = 3;
        static final int FROM = 0;
        static final int LASTING = 1;
        static final int TIMES = 0;
        static final int ROUND = 1;
        static final int WIDE = 0;
        static final int HIGH = 1;
        static final int WORTH = 2;
        static final int X = 0;
        static final int Y = 1;

        final Rows layers = new Rows(MOST_LAYERS, 4);
        final Rows lives = new Rows(MOST_LIVES, 2);
        final Rows folds = new Rows(MOST_FOLDS, 2);
        final Rows kinds = new Rows(MOST_KINDS, 3);
        final Rows flaws = new Rows(MOST_FLAWS, 2);
        int sheetWide = 1;
        int sheetHigh = 1;
        int netRows = 1;
        int netColumns = 1;
        int lines;

        Rows rowsOf(int sort) {
            switch (sort) {
                case LAYER:
                    return layers;
                case LIFE:
                    return lives;
                case FOLDS:
                    return folds;
                case PANEL:
                    return kinds;
                case FLAW:
                    return flaws;
                default:
                    return null;
            }
        }

        boolean slidesAnywhere() {
            for (int k = 0; k + 1 < layers.size; k++) {
                if (layers.get(k, SLIDES) == 1) {
                    return true;
                }
            }
            return false;
        }

        void clear() {
            layers.clear();
            lives.clear();
            folds.clear();
            kinds.clear();
            flaws.clear();
            sheetWide = 1;
            sheetHigh = 1;
            netRows = 1;
            netColumns = 1;
            lines = 0;
        }

        void copy(Film from) {
            layers.copy(from.layers);
            lives.copy(from.lives);
            folds.copy(from.folds);
            kinds.copy(from.kinds);
            flaws.copy(from.flaws);
            sheetWide = from.sheetWide;
            sheetHigh = from.sheetHigh;
            netRows = from.netRows;
            netColumns = from.netColumns;
            lines = from.lines;
        }
    }

    /** All that is told: what an image holds. */
    private static final class Told {
        static final int TAPE = 500;

        static final int CRACK_RAIL = 0;
        static final int CRACK_ROW = 1;
        static final int CRACK_COLUMN = 2;
        static final int CRACK_DAY = 3;
        static final int CRACK_COST = 4;
        static final int PICTURE_TOP = 0;
        static final int PICTURE_BOTTOM = 1;
        static final int PICTURE_LEFT = 2;
        static final int PICTURE_RIGHT = 3;
        static final int PICTURE_AGING = 4;
        static final int HAND_FILMS = 0;
        static final int HAND_FOLDS = 1;
        static final int HAND_ROUND = 2;
        static final int TEST_SPEED = 0;
        static final int TEST_FOLDS = 1;
        static final int TEST_FILMS = 2;
        static final int TEST_CRACKED = 3;

        final byte[] tape = new byte[TAPE];
        int tapeLength;
        int fault;
        int faultPlace = NONE;
        final Film film = new Film();
        final Rows cracks = new Rows(40, 5);
        int day;
        int view = NONE;
        final Rows pictures = new Rows(12, 5);
        int wetDays;
        final Rows hands = new Rows(4, 3);
        final Rows tests = new Rows(Laws.MOST_TESTS, 4);
        final Rows ruleLines = new Rows(RulesText.MOST_LINES, 2);
        final Rows ruleTests = new Rows(RulesText.MOST_LINES * RulesText.MOST_TESTS, 5);

        void append(int number) {
            for (int shift = 24; shift >= 0 && tapeLength < TAPE; shift -= 8) {
                tape[tapeLength] = (byte) (number >> shift);
                tapeLength++;
            }
        }

        /** The tape is taken: it is empty, and this is what came of it. */
        void take(int newFault, int place) {
            tapeLength = 0;
            fault = newFault;
            faultPlace = newFault == 0 ? NONE : place;
        }

        int findCrack(boolean rail, int row, int column) {
            int wanted = rail ? 1 : 0;
            for (int k = 0; k < cracks.size; k++) {
                if (cracks.get(k, CRACK_RAIL) == wanted && cracks.get(k, CRACK_ROW) == row
                        && cracks.get(k, CRACK_COLUMN) == column) {
                    return k;
                }
            }
            return NONE;
        }

        /** Days never go back, so the CRACKS by THE VIEW are the first so many. */
        int cracksInView() {
            if (view == NONE) {
                return cracks.size;
            }
            int seen = 0;
            while (seen < cracks.size && cracks.get(seen, CRACK_DAY) <= view) {
                seen++;
            }
            return seen;
        }

        void copy(Told from) {
            System.arraycopy(from.tape, 0, tape, 0, TAPE);
            tapeLength = from.tapeLength;
            fault = from.fault;
            faultPlace = from.faultPlace;
            film.copy(from.film);
            cracks.copy(from.cracks);
            day = from.day;
            view = from.view;
            pictures.copy(from.pictures);
            wetDays = from.wetDays;
            hands.copy(from.hands);
            tests.copy(from.tests);
            ruleLines.copy(from.ruleLines);
            ruleTests.copy(from.ruleTests);
        }
    }

    // ---- texts ----

    /** The TOKENS of a tape, one after another. */
    private static final class Tokens {
        static final int END = 0;
        static final int WORD = 1;
        static final int NUMBER = 2;
        static final int SIGN = 3;
        static final int WRONG = 4;
        static final int MOST_DIGITS = 4;

        final byte[] bytes;
        int length;
        int kind;
        int place;
        int after;
        int number;

        Tokens(byte[] bytes) {
            this.bytes = bytes;
        }

        void start(int newLength) {
            length = Math.min(newLength, bytes.length);
            after = 0;
            advance();
        }

        void advance() {
            while (after < length && (bytes[after] == ' ' || bytes[after] == '\n')) {
                after++;
            }
            place = after;
            if (after >= length) {
                kind = END;
            } else if (isLetter(bytes[after])) {
                kind = WORD;
                while (after < length && isLetter(bytes[after])) {
                    after++;
                }
            } else if (isDigit(bytes[after])) {
                takeDigits();
            } else {
                kind = isSignByte(bytes[after]) ? SIGN : WRONG;
                after++;
            }
        }

        private void takeDigits() {
            number = 0;
            while (after < length && isDigit(bytes[after])) {
                if (after - place < MOST_DIGITS) {
                    number = number * 10 + bytes[after] - '0';
                }
                after++;
            }
            kind = after - place > MOST_DIGITS ? WRONG : NUMBER;
        }

        boolean isWord(String word) {
            if (kind != WORD || after - place != word.length()) {
                return false;
            }
            for (int k = 0; k < word.length(); k++) {
                if (bytes[place + k] != word.charAt(k)) {
                    return false;
                }
            }
            return true;
        }

        boolean isSign(char sign) {
            return kind == SIGN && bytes[place] == sign;
        }

        private static boolean isLetter(byte b) {
            return b >= 'a' && b <= 'z';
        }

        private static boolean isDigit(byte b) {
            return b >= '0' && b <= '9';
        }

        /** A sign that a FILM has not is a fault there at the same place, token or not. */
        private static boolean isSignByte(byte b) {
            return b == ';' || b == ':' || b == '<' || b == '>' || b == '=';
        }
    }

    /** Reads a FILM into a draft, that becomes the film if there is no FAULT. */
    private static final class FilmText {
        private static final int SORTS = 7;
        private static final int WIDEST = 3;
        // by sort: how many NUMBERS, and of each the least and the greatest that can be
        private static final int[] NUMBERS = {3, 2, 2, 3, 2, 2, 2};
        private static final int[] LEAST = {1, 1, 1, 0, 1, 0, 1, 1, 0, 1, 1, 1, 0, 0, 0, 1, 1, 0, 1, 1, 0};
        private static final int[] GREATEST = {
            99, 99, 99, 99, 999, 0, 9999, 9999, 0, 10, 10, 999, 9, 9, 0, 10, 10, 0, 6, 6, 0};

        final Told told;
        final Tokens tokens;
        final Film draft = new Film();
        final int[] numbers = new int[WIDEST];
        final int[] places = new int[WIDEST];
        final int[] flawPlaces = new int[Film.MOST_FLAWS];
        boolean slides;
        boolean sheetTold;
        boolean netTold;
        int fault;
        int faultPlace;

        FilmText(Told told) {
            this.told = told;
            this.tokens = new Tokens(told.tape);
        }

        int readFilm() {
            draft.clear();
            sheetTold = false;
            netTold = false;
            fault = 0;
            tokens.start(told.tapeLength);
            while (draft.lines < Told.TAPE && tokens.kind != Tokens.END) {
                if (!readLine()) {
                    told.take(1, tokens.place);
                    return NONE;
                }
                draft.lines++;
            }
            findFlawBeside();
            told.take(fault, faultPlace);
            if (fault != 0) {
                return NONE;
            }
            told.film.copy(draft);
            told.cracks.clear();
            told.pictures.clear();
            return draft.lines;
        }

        /** False: the token at hand is one with which no text goes on. */
        private boolean readLine() {
            int sort = sortOfWord();
            int place = tokens.place;
            if (sort == NONE) {
                return false;
            }
            tokens.advance();
            for (int k = 0; k < NUMBERS[sort] && k < WIDEST; k++) {
                if (tokens.kind != Tokens.NUMBER) {
                    return false;
                }
                numbers[k] = tokens.number;
                places[k] = tokens.place;
                tokens.advance();
            }
            if (sort == Film.LAYER && !readGlue()) {
                return false;
            }
            if (!tokens.isSign(';')) {
                return false;
            }
            tokens.advance();
            // Only the first FAULT by place counts, and LINES are read by place.
            if (fault == 0 && isFine(sort, place)) {
                take(sort, place);
            }
            return true;
        }

        private int sortOfWord() {
            if (tokens.isWord("layer")) {
                return Film.LAYER;
            }
            if (tokens.isWord("life")) {
                return Film.LIFE;
            }
            if (tokens.isWord("folds")) {
                return Film.FOLDS;
            }
            if (tokens.isWord("panel")) {
                return Film.PANEL;
            }
            if (tokens.isWord("flaw")) {
                return Film.FLAW;
            }
            if (tokens.isWord("sheet")) {
                return Film.SHEET;
            }
            return tokens.isWord("net") ? Film.NET : NONE;
        }

        private boolean readGlue() {
            slides = tokens.isWord("slide");
            if (!slides && !tokens.isWord("hold")) {
                return false;
            }
            tokens.advance();
            return true;
        }

        private boolean isFine(int sort, int place) {
            if (isTooMany(sort)) {
                fault = 3;
                faultPlace = place;
                return false;
            }
            if (sort < 0 || sort >= SORTS) {
                return false;
            }
            for (int k = 0; k < NUMBERS[sort] && k < WIDEST; k++) {
                if (!isIn(numbers[k], LEAST[sort * WIDEST + k], GREATEST[sort * WIDEST + k])) {
                    fault = 2;
                    faultPlace = places[k];
                    return false;
                }
            }
            return true;
        }

        private boolean isTooMany(int sort) {
            if (sort == Film.SHEET) {
                return sheetTold;
            }
            if (sort == Film.NET) {
                return netTold;
            }
            Rows rows = draft.rowsOf(sort);
            return rows == null || rows.isFull() || sort == Film.LIFE && isLifeTold(numbers[0]);
        }

        private boolean isLifeTold(int from) {
            for (int k = 0; k < draft.lives.size; k++) {
                if (draft.lives.get(k, Film.FROM) == from) {
                    return true;
                }
            }
            return false;
        }

        private void take(int sort, int place) {
            if (sort == Film.SHEET) {
                draft.sheetWide = numbers[0];
                draft.sheetHigh = numbers[1];
                sheetTold = true;
                return;
            }
            if (sort == Film.NET) {
                draft.netRows = numbers[0];
                draft.netColumns = numbers[1];
                netTold = true;
                return;
            }
            Rows rows = draft.rowsOf(sort);
            if (rows == null || rows.isFull()) {
                return;
            }
            int row = rows.grow();
            for (int k = 0; k < NUMBERS[sort] && k < WIDEST; k++) {
                rows.put(row, k, numbers[k]);
            }
            if (sort == Film.LAYER) {
                rows.put(row, Film.SLIDES, slides ? 1 : 0);
            }
            if (sort == Film.FLAW && row < flawPlaces.length) {
                flawPlaces[row] = place;
            }
        }

        /** The SHEET may be told behind its FLAWS, so this is looked at when all is read. */
        private void findFlawBeside() {
            for (int k = 0; fault == 0 && k < draft.flaws.size && k < flawPlaces.length; k++) {
                if (draft.flaws.get(k, Film.X) >= draft.sheetWide || draft.flaws.get(k, Film.Y) >= draft.sheetHigh) {
                    fault = 4;
                    faultPlace = flawPlaces[k];
                }
            }
        }
    }

    /** Reads RULES into a draft, that becomes the rules if there is no FAULT. */
    private static final class RulesText {
        static final int MOST_LINES = 16;
        static final int MOST_TESTS = 4;

        // of a LINE
        static final int VERB = 0;
        static final int NUMBER = 1;
        static final int BAR = 0;
        static final int PRICE = 1;
        static final int LESS = 2;

        // of a TEST
        static final int OF_LINE = 0;
        static final int NOT = 1;
        static final int MEASURE = 2;
        static final int SIGN = 3;
        static final int BOUND = 4;

        // what a TEST asks
        static final int SLIDES = 0;
        static final int IS_WHOLE = 1;
        static final int LAYERS = 2;
        static final int LEAST = 3;
        static final int ROWS = 4;
        static final int FED = 5;
        static final int DARKS = 6;
        static final int WORTH = 7;
        static final int CRACKS = 8;
        static final int KEPT = 9;
        static final int DAY = 10;
        static final int MEASURES = 11;

        final Told told;
        final Tokens tokens;
        final Rows lines = new Rows(MOST_LINES, 2);
        final Rows tests = new Rows(MOST_LINES * MOST_TESTS, 5);
        int fault;
        int faultPlace;

        RulesText(Told told) {
            this.told = told;
            this.tokens = new Tokens(told.tape);
        }

        int readRules() {
            lines.clear();
            tests.clear();
            fault = 0;
            tokens.start(told.tapeLength);
            for (int k = 0; k <= Told.TAPE && tokens.kind != Tokens.END; k++) {
                if (!readLine()) {
                    told.take(1, tokens.place);
                    return NONE;
                }
            }
            told.take(fault, faultPlace);
            if (fault != 0) {
                return NONE;
            }
            told.ruleLines.copy(lines);
            told.ruleTests.copy(tests);
            return lines.size;
        }

        /** False: the token at hand is one with which no text goes on. */
        private boolean readLine() {
            if (lines.isFull()) {
                noteTooMany();
            }
            int line = lines.grow();
            if (tokens.isWord("if") && !readTests(line)) {
                return false;
            }
            int verb = verbOfWord();
            int number = 0;
            if (verb == NONE) {
                return false;
            }
            tokens.advance();
            if (verb != BAR) {
                if (tokens.kind != Tokens.NUMBER) {
                    return false;
                }
                number = tokens.number;
                tokens.advance();
            }
            if (!tokens.isSign(';')) {
                return false;
            }
            tokens.advance();
            lines.put(line, VERB, verb);
            lines.put(line, NUMBER, number);
            return true;
        }

        private int verbOfWord() {
            if (tokens.isWord("bar")) {
                return BAR;
            }
            if (tokens.isWord("price")) {
                return PRICE;
            }
            return tokens.isWord("less") ? LESS : NONE;
        }

        /** The token at hand is 'if'; behind this it is the one behind ':'. */
        private boolean readTests(int line) {
            for (int k = 0; k <= Told.TAPE; k++) {
                tokens.advance();
                if (k >= MOST_TESTS) {
                    noteTooMany();
                }
                if (!readTest(line)) {
                    return false;
                }
                if (tokens.isSign(':')) {
                    tokens.advance();
                    return true;
                }
                if (!tokens.isWord("and")) {
                    return false;
                }
            }
            return false;
        }

        private boolean readTest(int line) {
            boolean not = tokens.isWord("not");
            if (not) {
                tokens.advance();
            }
            int measure = measureOfWord();
            if (measure == NONE) {
                return false;
            }
            tokens.advance();
            char sign = '>';
            int bound = 0;
            if (measure != SLIDES && measure != IS_WHOLE) {
                sign = tokens.isSign('<') ? '<' : tokens.isSign('=') ? '=' : '>';
                if (!tokens.isSign(sign)) {
                    return false;
                }
                tokens.advance();
                if (tokens.kind != Tokens.NUMBER) {
                    return false;
                }
                bound = tokens.number;
                tokens.advance();
            }
            // Behind a FAULT nothing of the draft is used any more.
            int test = fault == 0 ? tests.grow() : NONE;
            tests.put(test, OF_LINE, line);
            tests.put(test, NOT, not ? 1 : 0);
            tests.put(test, MEASURE, measure);
            tests.put(test, SIGN, sign);
            tests.put(test, BOUND, bound);
            return true;
        }

        private int measureOfWord() {
            if (tokens.isWord("slides")) {
                return SLIDES;
            }
            if (tokens.isWord("whole")) {
                return IS_WHOLE;
            }
            if (tokens.isWord("layers")) {
                return LAYERS;
            }
            if (tokens.isWord("least")) {
                return LEAST;
            }
            if (tokens.isWord("rows")) {
                return ROWS;
            }
            if (tokens.isWord("fed")) {
                return FED;
            }
            if (tokens.isWord("darks")) {
                return DARKS;
            }
            if (tokens.isWord("worth")) {
                return WORTH;
            }
            if (tokens.isWord("cracks")) {
                return CRACKS;
            }
            if (tokens.isWord("kept")) {
                return KEPT;
            }
            return tokens.isWord("day") ? DAY : NONE;
        }

        private void noteTooMany() {
            if (fault == 0) {
                fault = 3;
                faultPlace = tokens.place;
            }
        }
    }

    // ---- what follows from it ----

    /**
     * LAYERS in an order, bent. Lengths stay exact: of each BLOCK NEUTRAL is over / under, kept at its
     * first place, and far is the distance of a LAYER's further face from it, times under.
     */
    private static final class Bend {
        static final int NO_ROUND = 10000;
        static final int MOST_ORDERS = 720;

        final Film film;
        final int[] places = new int[Film.MOST_LAYERS];
        final int[] bottom = new int[Film.MOST_LAYERS];
        final int[] first = new int[Film.MOST_LAYERS];
        final long[] over = new long[Film.MOST_LAYERS];
        final long[] under = new long[Film.MOST_LAYERS];
        final long[] far = new long[Film.MOST_LAYERS];
        final long[] folded = new long[Film.MOST_LIVES];
        final int[] bestOrder = new int[Film.MOST_LAYERS];
        int orderRound;
        boolean orderFresh;

        Bend(Film film) {
            this.film = film;
        }

        void forgetOrder() {
            orderFresh = false;
        }

        void layAsTold() {
            for (int place = 0; place < places.length; place++) {
                places[place] = place;
            }
            lay();
        }

        private void lay() {
            int layers = film.layers.size;
            int height = 0;
            int start = 0;
            for (int place = 0; place < layers; place++) {
                if (place == 0 || film.layers.get(place - 1, Film.SLIDES) == 1) {
                    start = place;
                    over[start] = 0;
                    under[start] = 0;
                }
                int thick = film.layers.get(places[place], Film.THICK);
                long pull = (long) thick * film.layers.get(places[place], Film.STIFF);
                over[start] += pull * (2 * height + thick);
                under[start] += 2 * pull;
                first[place] = start;
                bottom[place] = height;
                height += thick;
            }
            for (int place = 0; place < layers; place++) {
                long low = bottom[place] * under[first[place]] - over[first[place]];
                long high = low + film.layers.get(places[place], Film.THICK) * under[first[place]];
                far[place] = Math.abs(high) >= Math.abs(low) ? high : low;
            }
        }

        int neutralThousandths(int place) {
            return (int) divide(WHOLE * over[first[place]], under[first[place]]);
        }

        int stretchMillionths(int place, int round) {
            return (int) divide(1000000L * far[place], round * under[first[place]]);
        }

        boolean canBear(int place, int round) {
            return WHOLE * Math.abs(far[place]) <= round * borneBy(place);
        }

        /** MARK of the LAYER in a place, in the measure of far. */
        private long borneBy(int place) {
            return film.layers.get(places[place], Film.MARK) * under[first[place]];
        }

        int leastRound() {
            long least = 1;
            for (int place = 0; place < film.layers.size; place++) {
                long borne = borneBy(place);
                least = Math.max(least, divide(WHOLE * Math.abs(far[place]) + borne - 1, borne));
            }
            return (int) Math.min(least, NO_ROUND);
        }

        int worstPlace() {
            int worst = 0;
            for (int place = 1; place < film.layers.size; place++) {
                if (Math.abs(far[place]) * borneBy(worst) > Math.abs(far[worst]) * borneBy(place)) {
                    worst = place;
                }
            }
            return worst;
        }

        /** ORDERS are gone through from the least row on, so the first of several is the one. */
        void findOrder() {
            if (orderFresh) {
                return;
            }
            layAsTold();
            takeOrder(leastRound());
            for (int k = 1; k < MOST_ORDERS && stepOrder(); k++) {
                lay();
                int round = leastRound();
                if (round < orderRound) {
                    takeOrder(round);
                }
            }
            orderFresh = true;
        }

        private void takeOrder(int round) {
            orderRound = round;
            System.arraycopy(places, 0, bestOrder, 0, places.length);
        }

        /** The next row of LAYERS; false: this was the last one. */
        private boolean stepOrder() {
            int layers = film.layers.size;
            int turn = layers - 2;
            while (turn >= 0 && places[turn] > places[turn + 1]) {
                turn--;
            }
            if (turn < 0) {
                return false;
            }
            int greater = layers - 1;
            while (greater > turn + 1 && places[greater] < places[turn]) {
                greater--;
            }
            swapPlaces(turn, greater);
            for (int low = turn + 1, high = layers - 1; low < high; low++, high--) {
                swapPlaces(low, high);
            }
            return true;
        }

        private void swapPlaces(int one, int other) {
            int layer = places[one];
            places[one] = places[other];
            places[other] = layer;
        }

        void restWear() {
            Arrays.fill(folded, 0L);
        }

        /** So many folds more of a ROUND, counted by the LIFE that they take from. */
        void wear(int place, long times, int round) {
            int life = NONE;
            int from = NONE;
            for (int k = 0; k < film.lives.size; k++) {
                int s = film.lives.get(k, Film.FROM);
                if (s > from && s * round * under[first[place]] <= WHOLE * Math.abs(far[place])) {
                    life = k;
                    from = s;
                }
            }
            if (life != NONE) {
                folded[life] += times;
            }
        }

        /** Whole lives that the folds took, each LIFE by itself: a common denominator alone would not fit. */
        private long wholeLives() {
            long whole = 0;
            for (int k = 0; k < film.lives.size; k++) {
                whole += divide(folded[k], film.lives.get(k, Film.LASTING));
            }
            return whole;
        }

        private long commonLife() {
            long product = 1;
            for (int k = 0; k < film.lives.size; k++) {
                product *= film.lives.get(k, Film.LASTING);
            }
            return product;
        }

        /** What the folds took beside whole lives, in parts of the common life. */
        private long partLives(long common) {
            long part = 0;
            for (int k = 0; k < film.lives.size; k++) {
                long life = film.lives.get(k, Film.LASTING);
                part += (folded[k] - divide(folded[k], life) * life) * divide(common, life);
            }
            return part;
        }

        boolean isWornOut() {
            long common = commonLife();
            return wholeLives() > 0 || partLives(common) >= common;
        }

        int wornThousandths() {
            long common = commonLife();
            return (int) (WHOLE * wholeLives() + divide(WHOLE * partLives(common), common));
        }

        /** Whether some LAYER is worn out by all FOLDS and so many more of a ROUND. */
        boolean breaksBehind(long times, int round) {
            for (int place = 0; place < film.layers.size; place++) {
                restWear();
                for (int k = 0; k < film.folds.size; k++) {
                    wear(place, film.folds.get(k, Film.TIMES), film.folds.get(k, Film.ROUND));
                }
                wear(place, times, round);
                if (isWornOut()) {
                    return true;
                }
            }
            return false;
        }
    }

    /**
     * WAYS through the net, as a flow of one along each part: LINES lead onward, RAILS either way
     * (a flow of -1 goes up). Adding ROWS one by one finds FED, and all of them together MOST.
     */
    private static final class Ways {
        static final int LINE = 0;
        static final int RAIL = 1;
        static final int FIRST_LINE = 2;
        static final int LAST_LINE = 3;

        // how a POINT was come by
        private static final int BY_FIRST_LINE = 0;
        private static final int ONWARD = 1;
        private static final int BACK = 2;
        private static final int DOWN = 3;
        private static final int UP = 4;

        final Told told;
        final boolean[] lineLeads = new boolean[Film.POINTS];
        final boolean[] railLeads = new boolean[Film.POINTS];
        final int[] lineFlow = new int[Film.POINTS];
        final int[] railFlow = new int[Film.POINTS];
        final boolean[] firstUsed = new boolean[Film.SIDE];
        final boolean[] lastOpen = new boolean[Film.SIDE];
        final boolean[] lastUsed = new boolean[Film.SIDE];
        final int[] cameBy = new int[Film.POINTS];
        final int[] queue = new int[Film.POINTS];
        int queued;
        int most;
        boolean fresh;

        Ways(Told told) {
            this.told = told;
        }

        void forget() {
            fresh = false;
        }

        void refresh() {
            if (!fresh) {
                layNet();
                findWays();
                fresh = true;
            }
        }

        private void layNet() {
            Film film = told.film;
            for (int row = 0; row < Film.SIDE; row++) {
                for (int column = 0; column < Film.SIDE; column++) {
                    int point = row * Film.SIDE + column;
                    lineLeads[point] = row < film.netRows && column + 1 < film.netColumns;
                    railLeads[point] = row + 1 < film.netRows && column < film.netColumns;
                }
            }
            int seen = told.cracksInView();
            for (int k = 0; k < seen; k++) {
                int point = told.cracks.get(k, Told.CRACK_ROW) * Film.SIDE + told.cracks.get(k, Told.CRACK_COLUMN);
                if (!isIn(point, 0, Film.POINTS - 1)) {
                    continue;
                }
                if (told.cracks.get(k, Told.CRACK_RAIL) == 1) {
                    railLeads[point] = false;
                } else {
                    lineLeads[point] = false;
                }
            }
        }

        private void findWays() {
            Arrays.fill(lineFlow, 0);
            Arrays.fill(railFlow, 0);
            for (int row = 0; row < Film.SIDE; row++) {
                firstUsed[row] = false;
                lastOpen[row] = false;
                lastUsed[row] = false;
            }
            most = 0;
            for (int row = 0; row < told.film.netRows; row++) {
                lastOpen[row] = true;
                if (addWay()) {
                    most++;
                } else {
                    lastOpen[row] = false;
                }
            }
            // What can still be reached from the BEGINNING is that side of THE CUT.
            explore();
        }

        /** One WAY more, turning others where that helps; false: there is none. */
        private boolean addWay() {
            int point = explore();
            if (point == NONE) {
                return false;
            }
            lastUsed[point / Film.SIDE] = true;
            for (int k = 0; k < Film.POINTS && isReached(point); k++) {
                switch (cameBy[point]) {
                    case ONWARD:
                        point--;
                        turnFlow(lineFlow, point, 1);
                        break;
                    case BACK:
                        turnFlow(lineFlow, point, -1);
                        point++;
                        break;
                    case DOWN:
                        point -= Film.SIDE;
                        turnFlow(railFlow, point, 1);
                        break;
                    case UP:
                        turnFlow(railFlow, point, -1);
                        point += Film.SIDE;
                        break;
                    default:
                        firstUsed[point / Film.SIDE] = true;
                        return true;
                }
            }
            return true;
        }

        private static void turnFlow(int[] flow, int point, int by) {
            if (point >= 0 && point < flow.length) {
                flow[point] += by;
            }
        }

        /** Goes from the BEGINNING wherever one WAY more could; the POINT where it gets to the END. */
        private int explore() {
            Arrays.fill(cameBy, NONE);
            queued = 0;
            for (int row = 0; row < told.film.netRows; row++) {
                if (!firstUsed[row]) {
                    reach(row * Film.SIDE, BY_FIRST_LINE);
                }
            }
            int lastColumn = told.film.netColumns - 1;
            for (int k = 0; k < Film.POINTS && k < queued; k++) {
                int point = queue[k];
                int row = point / Film.SIDE;
                int column = point % Film.SIDE;
                if (column == lastColumn && lastOpen[row] && !lastUsed[row]) {
                    return point;
                }
                if (lineLeads[point] && lineFlow[point] == 0) {
                    reach(point + 1, ONWARD);
                }
                if (column > 0 && lineFlow[point - 1] > 0) {
                    reach(point - 1, BACK);
                }
                if (railLeads[point] && railFlow[point] < 1) {
                    reach(point + Film.SIDE, DOWN);
                }
                if (row > 0 && railLeads[point - Film.SIDE] && railFlow[point - Film.SIDE] > -1) {
                    reach(point - Film.SIDE, UP);
                }
            }
            return NONE;
        }

        private void reach(int point, int by) {
            if (point >= 0 && point < Film.POINTS && cameBy[point] == NONE && queued < Film.POINTS) {
                cameBy[point] = by;
                queue[queued] = point;
                queued++;
            }
        }

        private boolean isReached(int point) {
            return point >= 0 && point < Film.POINTS && cameBy[point] != NONE;
        }

        /** Whether a part leads from the BEGINNING's side of THE CUT to the other. */
        boolean cuts(int sort, int row, int column) {
            int point = row * Film.SIDE + column;
            if (!isIn(point, 0, Film.POINTS - 1)) {
                return false;
            }
            switch (sort) {
                case LINE:
                    return lineLeads[point] && isReached(point) && !isReached(point + 1);
                case RAIL:
                    return railLeads[point] && isReached(point) != isReached(point + Film.SIDE);
                case FIRST_LINE:
                    return !isReached(row * Film.SIDE);
                default:
                    return isReached(row * Film.SIDE + told.film.netColumns - 1);
            }
        }

        int countCut(int sort) {
            int parts = 0;
            int columns = sort == LINE || sort == RAIL ? told.film.netColumns : 1;
            for (int row = 0; row < told.film.netRows; row++) {
                for (int column = 0; column < columns; column++) {
                    if (cuts(sort, row, column)) {
                        parts++;
                    }
                }
            }
            return parts;
        }
    }

    /** How LAMPS age by PICTURES, and the DAMP of each. */
    private static final class Lamps {
        static final int MOST_AGE = 9999;
        static final int MOST_LEFT = 1000;
        static final int MOST_ROUNDS = 1000;
        static final int BEYOND_RIM = 100;
        static final int DAMP_FROM = 50;

        final Told told;
        final int[] ages = new int[Film.POINTS];
        final int[] damp = new int[Film.POINTS];
        final int[] tomorrow = new int[Film.POINTS];
        boolean agesFresh;
        boolean dampFresh;

        Lamps(Told told) {
            this.told = told;
        }

        void forgetAges() {
            agesFresh = false;
        }

        void forgetDamp() {
            dampFresh = false;
        }

        void refreshAges() {
            if (agesFresh) {
                return;
            }
            Arrays.fill(ages, 0);
            for (int k = 0; k < told.pictures.size; k++) {
                addPicture(k);
            }
            agesFresh = true;
        }

        private void addPicture(int k) {
            int bottom = Math.min(told.pictures.get(k, Told.PICTURE_BOTTOM), Film.SIDE - 1);
            int right = Math.min(told.pictures.get(k, Told.PICTURE_RIGHT), Film.SIDE - 1);
            int aging = told.pictures.get(k, Told.PICTURE_AGING);
            for (int row = Math.max(told.pictures.get(k, Told.PICTURE_TOP), 0); row <= bottom; row++) {
                for (int column = Math.max(told.pictures.get(k, Told.PICTURE_LEFT), 0); column <= right; column++) {
                    ages[row * Film.SIDE + column] += aging;
                }
            }
        }

        int leftOf(int point) {
            return Math.max(0, MOST_LEFT - ages[point] / 10);
        }

        int leftSpread() {
            int least = MOST_LEFT;
            int greatest = 0;
            for (int row = 0; row < told.film.netRows; row++) {
                for (int column = 0; column < told.film.netColumns; column++) {
                    int rest = leftOf(row * Film.SIDE + column);
                    least = Math.min(least, rest);
                    greatest = Math.max(greatest, rest);
                }
            }
            return greatest - least;
        }

        /** A day that changes nothing is followed by days alike. */
        void refreshDamp() {
            if (dampFresh) {
                return;
            }
            Arrays.fill(damp, 0);
            boolean creeps = true;
            for (int day = 0; creeps && day < told.wetDays; day++) {
                creeps = creepOn();
            }
            dampFresh = true;
        }

        private boolean creepOn() {
            boolean changes = false;
            for (int row = 0; row < told.film.netRows; row++) {
                for (int column = 0; column < told.film.netColumns; column++) {
                    int point = row * Film.SIDE + column;
                    int beside = dampAt(row - 1, column) + dampAt(row + 1, column)
                            + dampAt(row, column - 1) + dampAt(row, column + 1);
                    tomorrow[point] = (4 * damp[point] + beside) / 8;
                    changes |= tomorrow[point] != damp[point];
                }
            }
            System.arraycopy(tomorrow, 0, damp, 0, Film.POINTS);
            return changes;
        }

        private int dampAt(int row, int column) {
            boolean inside = row >= 0 && row < told.film.netRows && column >= 0 && column < told.film.netColumns;
            return inside ? damp[row * Film.SIDE + column] : BEYOND_RIM;
        }

        boolean isDamp(int point) {
            return damp[point] >= DAMP_FROM;
        }

        /** ROUNDS behind each of which every LAMP is below its end, with a SHIFT. */
        int roundsWith(int shift) {
            int rounds = MOST_ROUNDS;
            for (int row = 0; row < told.film.netRows; row++) {
                for (int column = 0; column < told.film.netColumns; column++) {
                    rounds = Math.min(rounds, roundsOfLamp(row, column, shift));
                }
            }
            return rounds;
        }

        /** As many ROUNDS as there are COLUMNS always age a LAMP alike, so these are counted at once. */
        private int roundsOfLamp(int row, int column, int shift) {
            int columns = told.film.netColumns;
            int turn = 0;
            for (int n = 0; n < columns; n++) {
                turn += agingIn(row, column + n * shift);
            }
            if (turn == 0) {
                return MOST_ROUNDS;
            }
            int turns = MOST_AGE / turn;
            int rounds = turns * columns;
            int age = turns * turn;
            for (int n = 0; n < columns && age <= MOST_AGE; n++) {
                age += agingIn(row, column + n * shift);
                if (age <= MOST_AGE) {
                    rounds++;
                }
            }
            return rounds;
        }

        private int agingIn(int row, int column) {
            int columns = told.film.netColumns;
            return columns == 0 ? 0 : ages[row * Film.SIDE + column % columns];
        }
    }

    /** The SHEET cut: WORTH of each of its pieces, and THE PLAN. */
    private static final class Sheet {
        static final int MOST_SIDE = 10;
        static final int SPANS = 55;
        // by length, 0 to 10: how many spans within ten squares are shorter
        private static final int[] SHORTER = {0, 0, 10, 19, 27, 34, 40, 45, 49, 52, 54};
        static final int MOST_PANELS = 100;
        static final int DEEPEST = 20;
        static final int PLAN_KIND = 0;
        static final int PLAN_X = 1;
        static final int PLAN_Y = 2;

        final Film film;
        final int[] worths = new int[SPANS * SPANS];
        final Rows plan = new Rows(MOST_PANELS, 3);
        boolean worthFresh;
        boolean planFresh;

        Sheet(Film film) {
            this.film = film;
        }

        void forget() {
            worthFresh = false;
            planFresh = false;
        }

        /** Pieces have parts that are less wide or less high, so these come first. */
        void refreshWorth() {
            if (worthFresh) {
                return;
            }
            for (int wide = 1; wide <= film.sheetWide; wide++) {
                for (int high = 1; high <= film.sheetHigh; high++) {
                    fillWorths(wide, high, worthOfSize(wide, high));
                }
            }
            worthFresh = true;
        }

        private void fillWorths(int wide, int high, int panel) {
            for (int x = 0; x <= film.sheetWide - wide; x++) {
                for (int y = 0; y <= film.sheetHigh - high; y++) {
                    int asPanel = panel > 0 && !hasFlaw(x, y, wide, high) ? panel : 0;
                    worths[pieceOf(x, y, wide, high)] = Math.max(asPanel, worthCut(x, y, wide, high));
                }
            }
        }

        /** A piece is a span across and a span down: a start and a length within ten squares, 55 of them each. */
        private static int pieceOf(int x, int y, int wide, int high) {
            boolean isAcross = x >= 0 && wide >= 1 && wide <= MOST_SIDE - x;
            boolean isDown = y >= 0 && high >= 1 && high <= MOST_SIDE - y;
            return isAcross && isDown ? (SHORTER[wide] + x) * SPANS + SHORTER[high] + y : 0;
        }

        int worthOf(int x, int y, int wide, int high) {
            return worths[pieceOf(x, y, wide, high)];
        }

        /** The most that a cut of a piece makes; 0 if it can't be cut. The dearest loops, so they call little. */
        private int worthCut(int x, int y, int wide, int high) {
            int best = 0;
            int down = SHORTER[high] + y;
            for (int at = 1; at < wide; at++) {
                int first = (SHORTER[at] + x) * SPANS + down;
                int second = (SHORTER[wide - at] + x + at) * SPANS + down;
                best = Math.max(best, worths[first] + worths[second]);
            }
            int across = (SHORTER[wide] + x) * SPANS;
            for (int at = 1; at < high; at++) {
                int first = across + SHORTER[at] + y;
                int second = across + SHORTER[high - at] + y + at;
                best = Math.max(best, worths[first] + worths[second]);
            }
            return best;
        }

        /** What a piece of such a size is WORTH as a PANEL, as long as it has no FLAW. */
        private int worthOfSize(int wide, int high) {
            int best = 0;
            for (int kind = 0; kind < film.kinds.size; kind++) {
                if (isAsLarge(kind, wide, high)) {
                    best = Math.max(best, film.kinds.get(kind, Film.WORTH));
                }
            }
            return best;
        }

        private boolean isAsLarge(int kind, int wide, int high) {
            return film.kinds.get(kind, Film.WIDE) == wide && film.kinds.get(kind, Film.HIGH) == high;
        }

        private boolean hasFlaw(int x, int y, int wide, int high) {
            for (int k = 0; k < film.flaws.size; k++) {
                int across = film.flaws.get(k, Film.X) - x;
                int down = film.flaws.get(k, Film.Y) - y;
                if (across >= 0 && across < wide && down >= 0 && down < high) {
                    return true;
                }
            }
            return false;
        }

        void refreshPlan() {
            if (planFresh) {
                return;
            }
            refreshWorth();
            plan.clear();
            planPiece(this, 0, 0, film.sheetWide, film.sheetHigh, 0);
            planFresh = true;
        }

        /** Each cut leaves less wide or less high pieces, so twenty cuts in one another are never needed. */
        private static void planPiece(Sheet sheet, int x, int y, int wide, int high, int depth) {
            int worth = sheet.worthOf(x, y, wide, high);
            if (worth == 0 || depth > DEEPEST) {
                return;
            }
            if (sheet.worthOfSize(wide, high) == worth && !sheet.hasFlaw(x, y, wide, high)) {
                sheet.planPanel(x, y, wide, high, worth);
                return;
            }
            for (int at = 1; at < wide; at++) {
                if (sheet.worthOf(x, y, at, high) + sheet.worthOf(x + at, y, wide - at, high) == worth) {
                    planPiece(sheet, x, y, at, high, depth + 1);
                    planPiece(sheet, x + at, y, wide - at, high, depth + 1);
                    return;
                }
            }
            for (int at = 1; at < high; at++) {
                if (sheet.worthOf(x, y, wide, at) + sheet.worthOf(x, y + at, wide, high - at) == worth) {
                    planPiece(sheet, x, y, wide, at, depth + 1);
                    planPiece(sheet, x, y + at, wide, high - at, depth + 1);
                    return;
                }
            }
        }

        private void planPanel(int x, int y, int wide, int high, int worth) {
            for (int kind = 0; kind < film.kinds.size; kind++) {
                if (isAsLarge(kind, wide, high) && film.kinds.get(kind, Film.WORTH) == worth) {
                    int row = plan.grow();
                    plan.put(row, PLAN_KIND, kind);
                    plan.put(row, PLAN_X, x);
                    plan.put(row, PLAN_Y, y);
                    return;
                }
            }
        }
    }

    /** LAWS of folds, in order by b, then a, and the TESTS that bar each. */
    private static final class Laws {
        static final int MOST_TESTS = 12;
        static final int MOST_SPEED = 9;
        static final int MOST_A = 60;
        static final int LAWS = 240;
        static final int TRIES = 15;

        final Rows tests;
        // by LAW: the TESTS that it is not KEPT by, test 0 as the highest bit
        final int[] against = new int[LAWS];
        final int[] keptIfCracked = new int[TRIES];
        final int[] keptIfWhole = new int[TRIES];
        int keptLaws;
        int quarrelSet;
        int nextSpeed;
        int nextFolds;
        int nextNumber;
        boolean fresh;
        boolean quarrelFresh;
        boolean nextFresh;

        Laws(Rows tests) {
            this.tests = tests;
        }

        void forget() {
            fresh = false;
            quarrelFresh = false;
            nextFresh = false;
        }

        void refresh() {
            if (fresh) {
                return;
            }
            keptLaws = 0;
            for (int law = 0; law < LAWS; law++) {
                against[law] = testsAgainst(law);
                if (against[law] == 0) {
                    keptLaws++;
                }
            }
            fresh = true;
        }

        private int testsAgainst(int law) {
            int set = 0;
            for (int k = 0; k < tests.size; k++) {
                int unit = unitAt(law, tests.get(k, Told.TEST_SPEED));
                int folds = tests.get(k, Told.TEST_FOLDS);
                int cracked = tests.get(k, Told.TEST_CRACKED);
                boolean tooEarly = cracked != 0 && folds < 8 * unit;
                boolean tooLate = cracked != tests.get(k, Told.TEST_FILMS) && folds >= 12 * unit;
                if (tooEarly || tooLate) {
                    set |= bitOf(k);
                }
            }
            return set;
        }

        private static int bitOf(int test) {
            return 1 << MOST_TESTS - 1 - test;
        }

        /** a * (10 - v) ^ b: films crack from 8 of these folds on, to 12 of them. */
        private static int unitAt(int law, int speed) {
            int unit = law % MOST_A + 1;
            for (int b = law / MOST_A; b > 0; b--) {
                unit *= 10 - speed;
            }
            return unit;
        }

        int keptAt(int k) {
            int passed = 0;
            for (int law = 0; law < LAWS; law++) {
                if (against[law] == 0) {
                    if (passed == k) {
                        return 100 * (law / MOST_A) + law % MOST_A + 1;
                    }
                    passed++;
                }
            }
            return NONE;
        }

        int spanStart(int speed) {
            int least = Integer.MAX_VALUE;
            for (int law = 0; law < LAWS; law++) {
                if (against[law] == 0) {
                    least = Math.min(least, 8 * unitAt(law, speed));
                }
            }
            return least;
        }

        int spanEnd(int speed) {
            int greatest = 0;
            for (int law = 0; law < LAWS; law++) {
                if (against[law] == 0) {
                    greatest = Math.max(greatest, 12 * unitAt(law, speed));
                }
            }
            return greatest;
        }

        /** Of sets as large, that with the greatest number has the least row, so it goes down from the greatest. */
        void refreshQuarrel() {
            if (quarrelFresh) {
                return;
            }
            int fewest = MOST_TESTS + 1;
            int step = bitOf(tests.size - 1);
            quarrelSet = 0;
            for (int set = (1 << MOST_TESTS) - step; step > 0 && set > 0; set -= step) {
                if (Integer.bitCount(set) < fewest && barsAll(set)) {
                    quarrelSet = set;
                    fewest = Integer.bitCount(set);
                }
            }
            quarrelFresh = true;
        }

        private boolean barsAll(int set) {
            for (int law = 0; law < LAWS; law++) {
                if ((against[law] & set) == 0) {
                    return false;
                }
            }
            return true;
        }

        int quarrelAt(int k) {
            int passed = 0;
            for (int test = 0; test < tests.size; test++) {
                if ((quarrelSet & bitOf(test)) != 0) {
                    if (passed == k) {
                        return test;
                    }
                    passed++;
                }
            }
            return NONE;
        }

        void refreshNext() {
            if (nextFresh) {
                return;
            }
            nextNumber = LAWS + 1;
            for (int speed = 1; speed <= MOST_SPEED; speed++) {
                countTries(speed);
                for (int j = 0; j < TRIES; j++) {
                    int greater = Math.max(keptIfCracked[j], keptIfWhole[j]);
                    if (greater < nextNumber) {
                        nextNumber = greater;
                        nextSpeed = speed;
                        nextFolds = 10 << j;
                    }
                }
            }
            nextFresh = true;
        }

        private void countTries(int speed) {
            Arrays.fill(keptIfCracked, 0);
            Arrays.fill(keptIfWhole, 0);
            for (int law = 0; law < LAWS; law++) {
                if (against[law] == 0) {
                    int unit = unitAt(law, speed);
                    for (int j = 0; j < TRIES; j++) {
                        keptIfCracked[j] += 10 << j >= 8 * unit ? 1 : 0;
                        keptIfWhole[j] += 10 << j < 12 * unit ? 1 : 0;
                    }
                }
            }
        }
    }
}
