/** Each sentence of the document's Promises 1 to 28 that names a boundary case. */
final class PromiseEdges extends Edges {
    private static final int BLANKS = 0x20202020;

    PromiseEdges(Ledger ledger) {
        super(ledger);
    }

    @Override
    void run() {
        newObject();
        feed();
        end();
        film();
        fault();
        layer();
        neutral();
        stretch();
        bears();
        least();
        worst();
        order();
        tired();
        cracks();
        day();
        view();
        crack();
        leads();
        most();
        fed();
        cut();
        inCut();
        picture();
        left();
        unlike();
        wet();
        damp();
        dark();
    }

    private void newObject() {
        section("Promise 1");
        says("No LAYERS, LIVES, FOLDS, PANELS, FLAWS; SHEET 1, 1; NET 1, 1; DAY 0, THE VIEW is NOW; no images.");
        BentScreens x = new BentScreens();
        int[] counts = {0, 0, 0, 0, 0, 1, 1, 1, 1, 0, 0, 0, NONE, 0, 0, 0, 0, 0, 0};
        for (int what = 0; what < counts.length; what++) {
            due("count " + what, x.count(what), counts[what]);
        }
        for (int k = 0; k < 3; k++) {
            due("image " + k, x.again(k), false);
        }
        due("an empty tape", x.end(0), 0);
        due("an empty tape", x.end(1), NONE);
        due("no FAULT", x.fault(0), 0);
        due("no place", x.fault(1), NONE);
        // Nothing is shared with another object.
        film("layer 1 1 1 hold;net 6 6;").day(5);
        due("its own layers", new BentScreens().count(0), 0);
        due("its own day", new BentScreens().count(11), 0);
    }

    private static int feedBlanks(BentScreens x) {
        return x.feed(BLANKS, BLANKS, BLANKS, BLANKS, BLANKS);
    }

    private static BentScreens withBlanks(int bytes) {
        BentScreens x = new BentScreens();
        for (int k = 0; k < bytes; k += 20) {
            feedBlanks(x);
        }
        x.end(bytes);
        return x;
    }

    private void feed() {
        section("Promise 2");
        says("The tape: twenty bytes come behind it, of each number the highest first: how many it has.");
        BentScreens x = new BentScreens();
        // "net 5 4;life 1 1;" and what is no text
        due("twenty", x.feed(0x6e657420, 0x3520343b, 0x6c696665, 0x20312031, 0x3b20ff80), 20);
        x.end(17);
        due("twenty behind seventeen", feedBlanks(x), 37);
        due("the highest byte first", x.film(), 2);
        due("rows", x.count(5), 5);
        due("columns", x.count(6), 4);
        x.feed(-1, 0, 0, 0, 0);
        due("bytes 255", x.film(), NONE);
        due("bytes 255", x.fault(1), 0);
        x.feed(BLANKS, BLANKS, BLANKS, BLANKS, 0x20202080);
        due("the last byte", x.film(), NONE);
        due("the last byte", x.fault(1), 19);

        says("NONE, and nothing comes, if there would be more than 500.");
        x = withBlanks(480);
        due("up to 500", feedBlanks(x), 500);
        due("beyond", x.feed(-1, -1, -1, -1, -1), NONE);
        due("nothing came", x.end(501), NONE);
        due("nothing came", x.film(), 0);
        x = withBlanks(481);
        due("501", x.feed(-1, -1, -1, -1, -1), NONE);
        due("nothing came", x.end(482), NONE);
        due("nothing came", x.film(), 0);
        due("an empty tape again", feedBlanks(x), 20);
    }

    private void end() {
        section("Promise 3");
        says("The tape has its first n bytes alone: n.");
        BentScreens x = tape("net 5 4;what follows");
        due("eight", x.end(8), 8);
        due("the rest is gone", x.end(9), NONE);
        due("eight", x.film(), 1);
        x = tape("net 5 4;");
        due("all", x.end(8), 8);
        due("none", x.end(0), 0);
        due("none", x.film(), 0);
        // Bytes of an elder tape do not come back.
        x = tape("net 5 45;");
        x.end(7);
        due("the fault is the end", x.film(), NONE);
        due("the fault is the end", x.fault(1), 7);

        says("NONE if it has not so many, or n is below 0.");
        x = tape("net 5 4;");
        for (int n : new int[] {9, 500, 501, MAX, -1, MIN}) {
            due("end " + n, x.end(n), NONE);
        }
        due("it is as it was", x.film(), 1);
        due("it is as it was", x.count(5), 5);
        due("an empty tape", x.end(0), 0);
        due("an empty tape", x.end(1), NONE);
    }

    private void film() {
        section("Promise 4");
        says("The tape is taken (and is empty then), as FILM: how many LINES.");
        BentScreens x = new BentScreens();
        due("an empty tape", x.film(), 0);
        due("one line", Texts.film(x, "net 2 2;"), 1);
        due("the tape is empty", x.end(1), NONE);
        due("two lines", Texts.film(x, "net 2 2;sheet 2 2;"), 2);
        due("an empty tape is a film, too", x.film(), 0);
        due("its net", x.count(5), 1);

        says("NONE: a FAULT.");
        String[] texts = {"net", "net 7 7;", "net 2 2;net 2 2;", "flaw 1 1;"};
        x = film("net 3 4;");
        for (int k = 0; k < texts.length; k++) {
            due(texts[k], Texts.film(x, texts[k]), NONE);
            due(texts[k], x.fault(0), k + 1);
            due("the tape is empty", x.end(1), NONE);
            due("the net stays", x.count(6), 4);
            due("its lines", x.count(14), 1);
        }
    }

    private void fault() {
        section("Promise 5");
        says("Of the latest film() or rules(), what 0: the FAULT, 0 without, 1: its place, NONE without.");
        BentScreens x = new BentScreens();
        due("none yet", x.fault(0), 0);
        due("none yet", x.fault(1), NONE);
        Texts.film(x, "net 1 9;");
        due("of a film", x.fault(0), 2);
        due("of a film", x.fault(1), 6);
        Texts.rules(x, "bar;".repeat(17));
        due("of rules", x.fault(0), 3);
        due("of rules", x.fault(1), 64);
        Texts.rules(x, "bar;");
        due("without", x.fault(0), 0);
        due("without", x.fault(1), NONE);
        Texts.rules(x, "bar");
        due("of rules", x.fault(1), 3);
        Texts.film(x, "");
        due("without", x.fault(0), 0);
        due("without", x.fault(1), NONE);
        Texts.film(x, "@");
        due("at the first byte", x.fault(1), 0);

        says("NONE for another what.");
        for (int what : new int[] {2, -1, MAX, MIN}) {
            due("what " + what, x.fault(what), NONE);
        }
    }

    private static final String LAYERS = "layer 3 7 11 hold;layer 4 5 12 slide;layer 5 3 13 hold;layer 6 2 14 slide;";
    private static final int[] NO_LAYERS = {4, 5, 6, -1, MAX, MIN};

    private void layer() {
        section("Promise 6");
        says("Of a LAYER, what 0: THICK, 1: STIFF, 2: MARK, 3: 1 if its GLUE slides, else 0, 4: height of its bottom, 5: the"
                + " first LAYER of its BLOCK.");
        BentScreens x = film(LAYERS);
        int[][] told = {{3, 7, 11, 0, 0, 0}, {4, 5, 12, 1, 3, 0}, {5, 3, 13, 0, 7, 2}, {6, 2, 14, 1, 12, 2}};
        for (int layer = 0; layer < 4; layer++) {
            for (int what = 0; what < 6; what++) {
                due("layer " + layer + " what " + what, x.layer(layer, what), told[layer][what]);
            }
        }

        says("NONE: there is none such, or for another what.");
        for (int layer : NO_LAYERS) {
            for (int what = 0; what < 6; what++) {
                due("layer " + layer + " what " + what, x.layer(layer, what), NONE);
            }
        }
        for (int what : new int[] {6, -1, MAX, MIN}) {
            due("what " + what, x.layer(0, what), NONE);
            due("what " + what, x.layer(3, what), NONE);
        }
        due("no layers", new BentScreens().layer(0, 5), NONE);
    }

    private void neutral() {
        section("Promise 7");
        says("NEUTRAL of the BLOCK of a LAYER, in thousandths of a height, cut.");
        BentScreens x = film(LAYERS);
        // 131.5 / 41 = 3.20731.., (15 * 9.5 + 12 * 15) / 27 = 11.94444..
        int[] due = {3207, 3207, 11944, 11944};
        for (int layer = 0; layer < 4; layer++) {
            due("layer " + layer, x.neutral(layer), due[layer]);
        }
        // (1 * .5 + 2 * 1.5) / 3 = 1.16666..
        due("cut, not rounded", film("layer 1 1 1 hold;layer 1 2 1 hold;").neutral(0), 1166);

        says("NONE: there is none such.");
        for (int layer : NO_LAYERS) {
            due("layer " + layer, x.neutral(layer), NONE);
        }
        due("no layers", new BentScreens().neutral(0), NONE);
    }

    private void stretch() {
        section("Promise 8");
        says("STRETCH of a LAYER in a ROUND, in thousandths of a thousandth, cut toward 0.");
        BentScreens x = film(LAYERS);
        // 1000 * 131.5 / 41 / 7 = 458.18815.., 1000 * 155.5 / 41 / 7 = 541.81184..
        due("pressed", x.stretch(0, 7), -458188);
        due("pulled", x.stretch(1, 7), 541811);
        due("pressed, in 9999", x.stretch(0, 9999), -320);
        due("pulled, in 9999", x.stretch(1, 9999), 379);
        // NEUTRAL is (9801 * 49.5 + 99 * 1732.5) / 10296 = 63.77884.., the top is at 594.
        x = film("layer 99 99 1 hold;" + "layer 99 1 1 hold;".repeat(5));
        due("great numbers", x.stretch(5, 1), 530221153);

        says("-2000000000: there are none such.");
        x = film(LAYERS);
        for (int layer : NO_LAYERS) {
            due("layer " + layer, x.stretch(layer, 7), -2000000000);
        }
        for (int round : new int[] {0, 10000, -7, MAX, MIN}) {
            due("round " + round, x.stretch(0, round), -2000000000);
        }
        due("no layers", new BentScreens().stretch(0, 7), -2000000000);
    }

    private void bears() {
        section("Promise 9");
        says("Whether a LAYER BEARS a ROUND. False, too, if there are none such.");
        BentScreens x = film("layer 5 1 5 hold;");
        due("just its mark", x.bears(0, 500), true);
        due("more", x.bears(0, 499), false);
        due("the last round", x.bears(0, 9999), true);
        for (int round : new int[] {0, 10000, -500, MAX, MIN}) {
            due("round " + round, x.bears(0, round), false);
        }
        for (int layer : new int[] {1, -1, 6, MAX, MIN}) {
            due("layer " + layer, x.bears(layer, 500), false);
        }
        due("no layers", new BentScreens().bears(0, 500), false);
    }

    private void least() {
        section("Promise 10");
        says("LEAST ROUND. NONE: there are no LAYERS.");
        due("just", film("layer 5 1 5 hold;").least(), 500);
        due("upward", film("layer 1 1 3 hold;").least(), 167);
        due("no layers", new BentScreens().least(), NONE);
        due("no layers", film("life 0 1;").least(), NONE);
    }

    private void worst() {
        section("Promise 11");
        says("WORST at a ROUND. NONE: there are none such.");
        BentScreens x = film("layer 2 1 2 slide;layer 4 1 2 slide;layer 6 1 9 hold;");
        due("round 1", x.worst(1), 1);
        due("round 9999", x.worst(9999), 1);
        for (int round : new int[] {0, 10000, -1, MAX, MIN}) {
            due("round " + round, x.worst(round), NONE);
        }
        due("no layers", new BentScreens().worst(1), NONE);
        due("no layers, no round", new BentScreens().worst(0), NONE);
    }

    private void order() {
        section("Promise 12");
        says("BEST ORDER, what 0: its LEAST ROUND, 1 + k: the LAYER in place k, from 0 on.");
        BentScreens x = film("layer 2 2 1 hold;layer 2 2 9 hold;layer 2 2 9 slide;");
        int[] due = {1000, 1, 0, 2};
        for (int what = 0; what < 4; what++) {
            due("what " + what, x.order(what), due[what]);
        }
        x = film("layer 1 1 1 hold;".repeat(6));
        for (int k = 0; k < 6; k++) {
            due("place " + k, x.order(1 + k), k);
        }
        due("behind six", x.order(7), NONE);

        says("NONE: there are no LAYERS, or for another what.");
        x = film("layer 2 2 1 hold;layer 2 2 9 hold;layer 2 2 9 slide;");
        for (int what : new int[] {4, 5, 7, -1, MAX, MIN}) {
            due("what " + what, x.order(what), NONE);
        }
        for (int what = -1; what < 3; what++) {
            due("no layers, what " + what, new BentScreens().order(what), NONE);
        }
    }

    private void tired() {
        section("Promise 13");
        says("TIRED part of a LAYER behind the first n of FOLDS, in thousandths, cut.");
        BentScreens x = film("layer 2 1 9 hold;layer 2 1 9 slide;life 0 3;folds 1 1;folds 1 1;folds 4 1;");
        int[] due = {0, 333, 666, 2000};
        for (int n = 0; n < 4; n++) {
            due("behind " + n, x.tired(0, n), due[n]);
            due("behind " + n, x.tired(1, n), due[n]);
        }
        due("no folds", film("layer 2 1 9 hold;").tired(0, 0), 0);
        // 9999 / 1 six times
        due("as much as can be", film("layer 2 1 9 hold;life 0 1;" + "folds 9999 1;".repeat(6)).tired(0, 6), 59994000);

        says("NONE: there are none such.");
        for (int n : new int[] {4, 7, -1, MAX, MIN}) {
            due("behind " + n, x.tired(0, n), NONE);
        }
        for (int layer : new int[] {2, 6, -1, MAX, MIN}) {
            due("layer " + layer, x.tired(layer, 0), NONE);
        }
        due("no folds", film("layer 2 1 9 hold;").tired(0, 1), NONE);
        due("no layers", new BentScreens().tired(0, 0), NONE);
    }

    private void cracks() {
        section("Promise 14");
        says("In which of FOLDS a LAYER CRACKS, from 0 on.");
        BentScreens x = film("layer 2 1 9 slide;layer 4 1 9 hold;life 0 3;life 10 1;folds 1 200;folds 1 400;folds 1 500;");
        // STRETCH of the first one is below 10, of the second one 10 in the first of FOLDS.
        due("the first layer", x.cracks(0), 2);
        due("asked again", x.cracks(0), 2);
        due("its part", x.tired(0, 3), 1000);
        due("asked behind its part", x.cracks(0), 2);
        due("its part, asked again", x.tired(0, 1), 333);
        due("the second layer", x.cracks(1), 0);

        says("NONE: in none, or there is none such.");
        due("in none", film("layer 2 1 9 hold;life 0 3;folds 2 1;").cracks(0), NONE);
        for (int layer : new int[] {2, 6, -1, MAX, MIN}) {
            due("layer " + layer, x.cracks(layer), NONE);
        }
        due("no layers", new BentScreens().cracks(0), NONE);
    }

    private void day() {
        section("Promise 15");
        says("The DAY of now: true; false: it is earlier than it was, or above 999.");
        BentScreens x = new BentScreens();
        due("below 0", x.day(-1), false);
        due("the same", x.day(0), true);
        due("on", x.day(5), true);
        due("the same", x.day(5), true);
        due("earlier", x.day(4), false);
        due("below 0", x.day(MIN), false);
        due("above 999", x.day(1000), false);
        due("above 999", x.day(MAX), false);
        due("it is as it was", x.count(11), 5);
        due("the last", x.day(999), true);
        due("as told", x.count(11), 999);
        due("the same", x.day(999), true);
        due("above 999", x.day(1000), false);
        due("it is as it was", x.count(11), 999);
    }

    private void view() {
        section("Promise 16");
        says("THE VIEW is a DAY (NONE: NOW): true; false: it is later than now, or none.");
        BentScreens x = new BentScreens();
        due("day 0", x.view(0), true);
        due("as told", x.count(12), 0);
        due("later than now", x.view(1), false);
        x.day(5);
        due("now", x.view(5), true);
        due("later than now", x.view(6), false);
        due("no day", x.view(-2), false);
        due("no day", x.view(MIN), false);
        due("no day", x.view(MAX), false);
        due("it is as it was", x.count(12), 5);
        due("NOW", x.view(NONE), true);
        due("NOW", x.count(12), NONE);
        due("earlier", x.view(4), true);
        x.day(999);
        due("it does not go on", x.count(12), 4);
        due("the last day", x.view(999), true);
        due("above 999", x.view(1000), false);
        due("as told", x.count(12), 999);
    }

    private void crack() {
        section("Promise 17");
        says("A CRACK of a LINE, or (rail) of a RAIL: true; false: there is none such, it has one, or there are 40.");
        BentScreens x = film("net 3 2;");
        due("a line", x.crack(false, 2, 0), true);
        due("it has one", x.crack(false, 2, 0), false);
        due("a rail of the same point", x.crack(true, 2, 0), false);
        due("a rail", x.crack(true, 1, 0), true);
        due("it has one", x.crack(true, 1, 0), false);
        due("the line of the same point", x.crack(false, 1, 0), true);
        int[][] lines = {{0, 1}, {3, 0}, {-1, 0}, {0, -1}, {0, 2}, {MAX, 0}, {0, MAX}, {MIN, 0}, {0, MIN}};
        for (int[] at : lines) {
            due("line " + at[0] + " " + at[1], x.crack(false, at[0], at[1]), false);
        }
        int[][] rails = {{2, 1}, {3, 0}, {-1, 0}, {0, -1}, {0, 2}, {MAX, 0}, {0, MAX}, {MIN, 0}, {0, MIN}};
        for (int[] at : rails) {
            due("rail " + at[0] + " " + at[1], x.crack(true, at[0], at[1]), false);
        }
        due("three", x.count(9), 3);
        x.day(2);
        x.crack(false, 0, 0);
        x.view(1);
        due("it leads by the view", x.leads(false, 0, 0), true);
        due("it has one though", x.crack(false, 0, 0), false);
        due("four", x.count(9), 4);
        x = film("net 6 6;");
        for (int k = 0; k < 40; k++) {
            due("crack " + k, x.crack(k < 30, k < 30 ? k / 6 : (k - 30) / 5, k < 30 ? k % 6 : (k - 30) % 5), true);
        }
        due("a 41st", x.crack(false, 5, 0), false);
        due("it leads", x.leads(false, 5, 0), true);
        due("forty", x.count(9), 40);
    }

    private void leads() {
        section("Promise 18");
        says("Whether it leads (by THE VIEW). False, too, if there is none such.");
        BentScreens x = film("net 3 2;");
        x.day(4);
        x.crack(false, 2, 0);
        x.crack(true, 1, 1);
        due("a cracked line", x.leads(false, 2, 0), false);
        due("a cracked rail", x.leads(true, 1, 1), false);
        due("a line", x.leads(false, 1, 0), true);
        due("a rail", x.leads(true, 1, 0), true);
        x.view(3);
        due("the day before", x.leads(false, 2, 0), true);
        due("the day before", x.leads(true, 1, 1), true);
        x.view(4);
        due("that day", x.leads(false, 2, 0), false);
        int[][] none = {{0, 3, 0}, {0, -1, 0}, {0, 0, -1}, {0, 0, 1}, {1, 2, 0}, {1, -1, 0}, {1, 0, 2}, {1, 0, -1},
            {0, MAX, MAX}, {1, MAX, 0}, {0, 0, MAX}, {1, MIN, MIN}};
        for (int[] at : none) {
            due("part " + at[0] + " " + at[1] + " " + at[2], x.leads(at[0] == 1, at[1], at[2]), false);
        }
    }

    private void most() {
        section("Promise 19");
        says("MOST.");
        BentScreens x = film("net 2 2;");
        due("both", x.most(), 2);
        x.day(1);
        x.crack(false, 0, 0);
        due("one", x.most(), 1);
        x.crack(false, 1, 0);
        due("none", x.most(), 0);
        x.view(0);
        due("by the view", x.most(), 2);
        due("a new object", new BentScreens().most(), 1);
    }

    private void fed() {
        section("Promise 20");
        says("Whether a ROW is FED. False, too, if there is none such.");
        BentScreens x = film("net 2 2;");
        due("the first", x.fed(0), true);
        due("the last", x.fed(1), true);
        for (int row : new int[] {2, 5, 6, -1, MAX, MIN}) {
            due("row " + row, x.fed(row), false);
        }
        x = film("net 6 1;");
        due("the sixth", x.fed(5), true);
        due("a seventh", x.fed(6), false);
        x = film("net 2 2;");
        x.crack(false, 1, 0);
        due("not fed", x.fed(1), false);
        due("a new object", new BentScreens().fed(0), true);
        due("a new object", new BentScreens().fed(1), false);
    }

    private void cut() {
        section("Promise 21");
        says("THE CUT, what 0: how many; 1: of LINES, 2: of RAILS, 3: of FIRST LINES, 4: of LAST LINES.");
        // Row 3 is alone: its FIRST LINE. Rows 0, 1 come to column 1, where one RAIL leads on to row 2.
        BentScreens x = film("net 4 3;");
        int[][] cracks = {{0, 2, 0}, {0, 0, 1}, {0, 1, 1}, {1, 2, 0}, {1, 2, 1}, {1, 2, 2}};
        for (int[] c : cracks) {
            x.crack(c[0] == 1, c[1], c[2]);
        }
        int[] due = {2, 0, 1, 1, 0};
        for (int what = 0; what < 5; what++) {
            due("what " + what, x.cut(what), due[what]);
        }
        x = film("net 2 2;");
        x.crack(false, 0, 0);
        int[] line = {1, 1, 0, 0, 0};
        for (int what = 0; what < 5; what++) {
            due("a line, what " + what, x.cut(what), line[what]);
        }

        says("NONE for another what.");
        for (int what : new int[] {5, -1, MAX, MIN}) {
            due("what " + what, x.cut(what), NONE);
        }
    }

    private void inCut() {
        section("Promise 22");
        says("Whether THE CUT has a LINE (sort 0), a RAIL (1), the FIRST LINE (2) or the LAST LINE (3) of a ROW (in 2 and 3 the"
                + " column counts for nothing).");
        BentScreens x = film("net 4 3;");
        int[][] cracks = {{0, 2, 0}, {0, 0, 1}, {0, 1, 1}, {1, 2, 0}, {1, 2, 1}, {1, 2, 2}};
        for (int[] c : cracks) {
            x.crack(c[0] == 1, c[1], c[2]);
        }
        for (int row = 0; row < 4; row++) {
            for (int column = 0; column < 3; column++) {
                String at = row + " " + column;
                due("line " + at, x.inCut(0, row, column), false);
                due("rail " + at, x.inCut(1, row, column), row == 1 && column == 1);
            }
            for (int column : new int[] {0, 2, 99, -1, MAX, MIN}) {
                due("first line " + row + ", column " + column, x.inCut(2, row, column), row == 3);
                due("last line " + row + ", column " + column, x.inCut(3, row, column), false);
            }
        }
        x = film("net 2 2;");
        x.crack(false, 0, 0);
        due("the line", x.inCut(0, 1, 0), true);
        due("the cracked one", x.inCut(0, 0, 0), false);

        says("False, too, if there is none such.");
        int[][] none = {{0, 2, 0}, {0, -1, 0}, {0, 1, 1}, {0, 1, -1}, {0, 0, 6}, {1, 1, 0}, {1, 0, 2}, {1, -1, 0}, {4, 1, 0},
            {-1, 1, 0}, {MAX, 1, 0}, {MIN, 1, 0}, {0, MAX, 0}, {0, 1, MAX}, {1, MIN, MIN}};
        for (int[] at : none) {
            due("sort " + at[0] + " " + at[1] + " " + at[2], x.inCut(at[0], at[1], at[2]), false);
        }
        x = film("net 2 1;");
        due("the last row", x.inCut(2, 1, 0), true);
        for (int row : new int[] {2, 5, 6, -1, MAX, MIN}) {
            due("first line of row " + row, x.inCut(2, row, 0), false);
            due("last line of row " + row, x.inCut(3, row, 0), false);
        }
    }

    private void picture() {
        section("Promise 23");
        says("A PICTURE: how many there are.");
        BentScreens x = film("net 3 4;");
        due("one", x.picture(0, 2, 0, 3, 1, 1), 1);
        due("two", x.picture(2, 2, 3, 3, 9, 999), 2);

        says("NONE: there are 12, there are no such ROWS, COLUMNS, a is above b, c above d, or other numbers.");
        int[][] refused = {{-1, 0, 0, 0, 1, 1}, {0, 3, 0, 0, 1, 1}, {3, 3, 0, 0, 1, 1}, {1, 0, 0, 0, 1, 1}, {0, 0, -1, 0, 1, 1},
            {0, 0, 0, 4, 1, 1}, {0, 0, 4, 4, 1, 1}, {0, 0, 2, 1, 1, 1}, {0, 0, 0, 0, 0, 1}, {0, 0, 0, 0, 10, 1},
            {0, 0, 0, 0, 1, 0}, {0, 0, 0, 0, 1, 1000}, {MIN, MAX, 0, 0, 1, 1}, {0, 0, MIN, MAX, 1, 1}, {0, MAX, 0, 0, 1, 1},
            {0, 0, 0, MAX, 1, 1}, {0, MIN, 0, 0, 1, 1}, {0, 0, 0, MIN, 1, 1}, {0, 0, 0, 0, MAX, 1}, {0, 0, 0, 0, 1, MAX},
            {0, 0, 0, 0, MIN, 1}, {0, 0, 0, 0, 1, MIN}};
        for (int[] p : refused) {
            due("picture " + java.util.Arrays.toString(p), x.picture(p[0], p[1], p[2], p[3], p[4], p[5]), NONE);
        }
        due("two as before", x.count(10), 2);
        due("as before", x.left(0, 0), 1000);
        for (int k = 3; k <= 12; k++) {
            due("picture " + k, x.picture(0, 0, 0, 0, 9, 9), k);
        }
        due("a 13th", x.picture(0, 0, 0, 0, 9, 999), NONE);
        due("twelve", x.count(10), 12);
        due("as before", x.left(0, 0), 919);
    }

    private void left() {
        section("Promise 24");
        says("LEFT of a LAMP. NONE: there is none such.");
        BentScreens x = film("net 3 4;");
        x.picture(2, 2, 3, 3, 1, 100);
        due("the last lamp", x.left(2, 3), 990);
        due("the first lamp", x.left(0, 0), 1000);
        int[][] none = {{3, 0}, {0, 4}, {-1, 0}, {0, -1}, {5, 5}, {6, 0}, {0, 6}, {MAX, 0}, {0, MAX}, {MIN, 0}, {0, MIN}};
        for (int[] at : none) {
            due("lamp " + at[0] + " " + at[1], x.left(at[0], at[1]), NONE);
        }
        due("a new object", new BentScreens().left(0, 0), 1000);
        due("a new object", new BentScreens().left(0, 1), NONE);
    }

    private void unlike() {
        section("Promise 25");
        says("UNLIKE.");
        BentScreens x = film("net 1 2;");
        due("alike", x.unlike(), 0);
        x.picture(0, 0, 1, 1, 1, 100);
        due("unlike", x.unlike(), 10);
        x.picture(0, 0, 0, 0, 1, 100);
        due("alike again", x.unlike(), 0);
        due("a new object", new BentScreens().unlike(), 0);
    }

    private void wet() {
        section("Promise 26");
        says("So many days of DAMP from now on: true; false: not 0 .. 200.");
        BentScreens x = new BentScreens();
        due("one", x.wet(1), true);
        due("it counts", x.damp(0, 0), 50);
        due("two in all, not one more", x.wet(2), true);
        due("it counts", x.damp(0, 0), 75);
        for (int days : new int[] {-1, 201, MAX, MIN}) {
            due("days " + days, x.wet(days), false);
        }
        due("it is as it was", x.count(13), 2);
        due("it is as it was", x.damp(0, 0), 75);
        due("200", x.wet(200), true);
        due("it counts", x.damp(0, 0), 99);
        due("none", x.wet(0), true);
        due("it counts", x.damp(0, 0), 0);
    }

    private void damp() {
        section("Promise 27");
        says("DAMP of a LAMP behind those days. NONE: there is none such.");
        BentScreens x = film("net 3 4;");
        due("at first", x.damp(2, 3), 0);
        x.wet(1);
        due("the last lamp", x.damp(2, 3), 25);
        int[][] none = {{3, 0}, {0, 4}, {-1, 0}, {0, -1}, {5, 5}, {6, 0}, {0, 6}, {MAX, 0}, {0, MAX}, {MIN, 0}, {0, MIN}};
        for (int[] at : none) {
            due("lamp " + at[0] + " " + at[1], x.damp(at[0], at[1]), NONE);
        }
        Texts.film(x, "net 1 1;");
        due("days stay, the net is another", x.damp(0, 0), 50);
        due("no such lamp any more", x.damp(0, 1), NONE);
    }

    private void dark() {
        section("Promise 28");
        says("Whether a LAMP is DARK. False, too, if there is none such.");
        BentScreens x = film("net 3 4;");
        due("not dark", x.dark(2, 3), false);
        x.wet(200);
        due("the last lamp", x.dark(2, 3), true);
        int[][] none = {{3, 0}, {0, 4}, {-1, 0}, {0, -1}, {5, 5}, {6, 0}, {0, 6}, {MAX, 0}, {0, MAX}, {MIN, 0}, {0, MIN}};
        for (int[] at : none) {
            due("lamp " + at[0] + " " + at[1], x.dark(at[0], at[1]), false);
        }
        section("Promise 29");
        says("How many LAMPS are DARK.");
        due("all", x.darks(), 12);
        x.wet(0);
        due("none", x.darks(), 0);
        x.picture(1, 1, 1, 2, 9, 999);
        x.picture(1, 1, 1, 2, 9, 999);
        due("two by age", x.darks(), 2);
        x.crack(false, 2, 0);
        due("a row besides", x.darks(), 6);
        x.crack(false, 1, 0);
        due("a lamp counts once", x.darks(), 8);
    }
}
