/** Each sentence of the document's Terms 1 to 4 that names a boundary case: what is told of films, nets and sheets. */
final class FilmEdges extends Edges {
    FilmEdges(Ledger ledger) {
        super(ledger);
    }

    @Override
    void run() {
        section("Terms 1");
        layers();
        blocks();
        stretches();
        rounds();
        orders();
        lives();
        folds();
        section("Terms 2");
        net();
        cracks();
        ways();
        fed();
        cut();
        section("Terms 3");
        lamps();
        pictures();
        dark();
        damp();
        section("Terms 4");
        sheet();
        kinds();
        worth();
        plan();
    }

    // ---- Terms 1 ----

    private void layers() {
        says("LAYERS, at most 6, from 0 on, lie one on another, the first one lowest");
        String six = "layer 1 1 1 hold;layer 2 1 1 hold;layer 3 1 1 hold;layer 4 1 1 hold;layer 5 1 1 hold;layer 6 1 1 hold;";
        BentScreens x = film(six);
        int[] bottoms = {0, 1, 3, 6, 10, 15};
        due("six", x.count(0), 6);
        for (int layer = 0; layer < 6; layer++) {
            due("thick of " + layer, x.layer(layer, 0), layer + 1);
            due("bottom of " + layer, x.layer(layer, 4), bottoms[layer]);
        }
        due("none before the first", x.layer(-1, 0), NONE);
        due("none behind the sixth", x.layer(6, 0), NONE);
        faulty(six + "layer 7 1 1 hold;", 3, six.length());
        x = film("");
        due("none", x.count(0), 0);
        due("none", x.layer(0, 0), NONE);

        says("THICK, 1 .. 99, STIFF, 1 .. 99, MARK, 1 .. 99 (thousandths)");
        range("layer ", 1, 99, " 1 1 hold;");
        range("layer 1 ", 1, 99, " 1 hold;");
        range("layer 1 1 ", 1, 99, " hold;");
        x = film("layer 1 99 1 hold;layer 99 1 99 hold;");
        int[][] told = {{1, 99, 1}, {99, 1, 99}};
        for (int what = 0; what < 3; what++) {
            due("least and greatest, " + what, x.layer(0, what), told[0][what]);
            due("least and greatest, " + what, x.layer(1, what), told[1][what]);
        }
        // 1000 * 49.5 / 500 is 99 thousandths.
        x = film("layer 99 1 99 hold;");
        due("99 thousandths are borne", x.bears(0, 500), true);
        due("more are not", x.bears(0, 499), false);
    }

    private void blocks() {
        says("GLUE to the LAYER above that holds or slides");
        BentScreens x = film("layer 1 1 1 hold;layer 1 1 1 slide;layer 1 1 1 hold;");
        due("holds", x.layer(0, 3), 0);
        due("slides", x.layer(1, 3), 1);
        faulty("layer 1 1 1 holds;", 1, 12);
        faulty("layer 1 1 1 slid;", 1, 12);
        faulty("layer 1 1 1;", 1, 11);

        says("A BLOCK: LAYERS one on another whose GLUE between holds (the last one's counts for nothing).");
        x = film("layer 2 1 1 hold;layer 4 1 1 slide;layer 2 1 1 slide;layer 2 1 1 hold;layer 2 1 1 slide;");
        int[] firsts = {0, 0, 2, 3, 3};
        for (int layer = 0; layer < 5; layer++) {
            due("block of " + layer, x.layer(layer, 5), firsts[layer]);
        }
        // (2 * 1 + 12 * 4) / 14 = 3.5714..
        for (String glue : new String[] {"hold;", "slide;"}) {
            x = film("layer 2 1 1 hold;layer 4 3 1 " + glue);
            due("the last one's " + glue, x.neutral(0), 3571);
            due("the last one's " + glue, x.neutral(1), 3571);
            due("the last one's " + glue, x.layer(1, 5), 0);
            x = film("layer 2 1 1 " + glue);
            due("alone, " + glue, x.neutral(0), 1000);
        }

        says("HEIGHTS are told from the bottom of the film on.");
        x = film("layer 4 1 1 slide;layer 6 1 1 hold;");
        due("bottom of another block", x.layer(1, 4), 4);
        due("neutral of another block", x.neutral(1), 7000);

        says("NEUTRAL of a BLOCK: the sum of STIFF * THICK * (height of the middle) of its LAYERS by that of STIFF * THICK"
                + " (a fraction).");
        // (21 * 1.5 + 20 * 5) / 41 = 3.20731..
        x = film("layer 3 7 11 hold;layer 4 5 12 slide;");
        due("thousandths", x.neutral(0), 3207);
        due("it is no more cut than that", x.stretch(0, 1), -3207317);
        x = film("layer 99 99 1 hold;".repeat(6));
        due("greatest", x.neutral(5), 297000);
        due("least", film("layer 1 1 1 hold;").neutral(0), 500);
    }

    private void stretches() {
        says("In a bend of ROUND r (1 .. 9999) the STRETCH of a height is 1000 * (height - NEUTRAL of its BLOCK) / r"
                + " (thousandths, below 0: pressed)");
        BentScreens x = film("layer 2 1 9 hold;");
        due("round 1", x.stretch(0, 1), 1000000);
        due("round 9999", x.stretch(0, 9999), 100);
        int[] none = {0, 10000, -1, MAX, MIN};
        for (int round : none) {
            due("round " + round, x.stretch(0, round), NO_STRETCH);
            due("round " + round, x.bears(0, round), false);
            due("round " + round, x.worst(round), NONE);
            due("round " + round, x.hand(1, 1, round), NONE);
        }
        due("round 9999 is borne", x.bears(0, 9999), true);
        due("worst at 1", x.worst(1), 0);
        due("worst at 9999", x.worst(9999), 0);
        x = film("layer 2 1 9 hold;layer 2 1 9 hold;");
        due("pressed", x.stretch(0, 1000), -2000);
        due("pulled", x.stretch(1, 1000), 2000);

        says("that of a LAYER is that of its top or its bottom, whichever is further from NEUTRAL (of the top, if both are"
                + " as far).");
        due("as far: the top", film("layer 2 1 9 hold;").stretch(0, 1000), 1000);
        // NEUTRAL is 2; the middle one goes from 1 to 3.
        x = film("layer 1 1 9 hold;layer 2 1 9 hold;layer 1 1 9 hold;");
        due("its bottom", x.stretch(0, 1000), -2000);
        due("as far: the top", x.stretch(1, 1000), 1000);
        due("its top", x.stretch(2, 1000), 2000);
        // NEUTRAL is (1 * .5 + 2 * 2 + 2 * 4) / 5 = 2.5; the middle one goes from 1 to 3.
        x = film("layer 1 1 9 hold;layer 2 1 9 hold;layer 2 1 9 hold;");
        due("its bottom is further", x.stretch(1, 1000), -1500);
        // NEUTRAL is (2 * 1 + 2 * 3 + 1 * 4.5) / 5 = 2.5; the middle one goes from 2 to 4.
        x = film("layer 2 1 9 hold;layer 2 1 9 hold;layer 1 1 9 hold;");
        due("its top is further", x.stretch(1, 1000), 1500);
    }

    private void rounds() {
        says("A LAYER BEARS r, if its STRETCH without sign is its MARK at most.");
        BentScreens x = film("layer 5 1 5 hold;");
        due("pulled by its mark", x.bears(0, 500), true);
        due("pulled by more", x.bears(0, 499), false);
        x = film("layer 2 1 5 hold;layer 2 1 5 hold;");
        due("pressed by its mark", x.bears(0, 400), true);
        due("pressed by more", x.bears(0, 399), false);

        says("LEAST ROUND: the least r that all LAYERS BEAR (10000: there is none).");
        due("thin and strong: 500 / 99", film("layer 1 1 99 hold;").least(), 6);
        // NEUTRAL is (72 * 6 + 94 * 59) / 166; the top is 69.99 off, by 7 it is 9998.28.
        x = film("layer 12 6 7 hold;layer 94 1 7 hold;");
        due("9999 is the last", x.least(), 9999);
        due("9999 is borne", x.bears(1, 9999), true);
        due("9998 is not", x.bears(1, 9998), false);
        // The same: 9999.07.
        x = film("layer 5 6 5 hold;layer 77 1 5 hold;");
        due("9999 is not enough", x.least(), 10000);
        due("9999 is not enough", x.bears(1, 9999), false);
        due("just 10000 is none, too", film("layer 20 1 1 hold;").least(), 10000);
        due("far above", film("layer 99 1 1 hold;").least(), 10000);
        due("all layers", film("layer 2 1 1 slide;layer 4 1 1 slide;layer 3 1 1 hold;").least(), 2000);

        says("WORST at a ROUND: the LAYER whose STRETCH without sign / MARK is greatest (of several the least).");
        due("all alike", film("layer 2 1 1 slide;layer 4 1 2 slide;layer 2 5 1 hold;").worst(1), 0);
        due("two alike behind", film("layer 2 1 2 slide;layer 4 1 2 slide;layer 4 1 2 hold;").worst(1), 1);
        due("the last one", film("layer 2 1 2 slide;layer 4 1 2 slide;layer 6 1 2 hold;").worst(1), 2);
        due("pressed", film("layer 2 1 1 hold;layer 2 1 2 hold;").worst(9999), 0);
        due("pulled", film("layer 2 1 2 hold;layer 2 1 1 hold;").worst(9999), 1);
    }

    private static long rowOf(BentScreens x) {
        long row = 0;
        for (int place = 0; place < x.count(0); place++) {
            row = row * 10 + x.order(1 + place);
        }
        return row;
    }

    private void orders() {
        says("ORDERS: LAYERS in another order, GLUE staying where it is (between the first and the second place and so"
                + " on).");
        // Alone the weak one needs 1000, beside another one 2000.
        BentScreens x = film("layer 2 2 9 slide;layer 2 2 9 hold;layer 2 2 1 hold;");
        due("the first place is alone", rowOf(x), 201);
        due("the first place is alone", x.order(0), 1000);
        x = film("layer 2 2 1 hold;layer 2 2 9 slide;layer 2 2 9 hold;");
        due("the last place is alone", rowOf(x), 120);
        due("the last place is alone", x.order(0), 1000);

        says("BEST ORDER: with the least LEAST ROUND; of several the least row.");
        // In the middle the weak one needs 1000; 1 0 2 and 2 0 1 are alike.
        x = film("layer 2 2 1 hold;layer 2 2 9 hold;layer 2 2 9 slide;");
        due("the least of two rows", rowOf(x), 102);
        due("its round", x.order(0), 1000);
        x = film("layer 2 2 9 hold;".repeat(6));
        due("all alike: as told", rowOf(x), 12345);
        x = film("layer 99 1 1 hold;layer 98 1 1 hold;layer 97 1 1 hold;");
        due("none bears: as told", rowOf(x), 12);
        // Each row by hand: 0 2 1 needs 739, the layers as told 2588.
        x = film("layer 20 13 28 hold;layer 13 19 29 hold;layer 5 12 7 hold;");
        due("by thick and stiff", rowOf(x), 21);
        due("by thick and stiff", x.order(0), 739);
        due("as told", x.least(), 2588);
        x = film("layer 12 5 25 slide;layer 13 15 34 hold;layer 13 20 36 slide;layer 4 20 33 hold;layer 9 14 16 hold;"
                + "layer 10 14 17 hold;");
        due("the best of 720", rowOf(x), 504123);
        due("the best of 720", x.order(0), 525);
        x = film("layer 19 11 36 hold;layer 9 17 16 hold;layer 2 10 1 slide;layer 3 4 39 hold;layer 18 2 13 hold;"
                + "layer 14 10 40 hold;");
        due("one that is borne, where as told none is", rowOf(x), 43125);
        due("one that is borne, where as told none is", x.order(0), 1890);
        x = film("layer 99 1 1 hold;layer 98 1 1 hold;layer 97 1 1 hold;");
        due("none bears", x.order(0), 10000);
        due("one layer", rowOf(film("layer 2 1 1 hold;")), 0);
        due("one layer", film("layer 2 1 1 hold;").order(0), 1000);
    }

    /** TIRED part of one LAYER of THICK 2, whose STRETCH is 1000 / r, behind some FOLDS. */
    private static int tiredBy(String rest, int folds) {
        return film("layer 2 1 99 hold;" + rest).tired(0, folds);
    }

    private void lives() {
        says("LIVES, at most 4: of a LAYER whose STRETCH without sign is from s on (0 .. 99, thousandths; unlike ones) a life"
                + " of n folds, 1 .. 999.");
        String four = "life 0 1;life 99 1;life 1 1;life 98 1;";
        taken(four);
        due("four", film(four).count(1), 4);
        due("none", film("").count(1), 0);
        faulty(four + "life 50 1;", 3, four.length());
        range("life ", 0, 99, " 1;");
        range("life 1 ", 1, 999, ";");
        faulty("life 5 1;life 5 1;", 3, 9);
        faulty("life 0 1;life 99 1;life 0 2;", 3, 19);
        // 1000 * 49.5 / 500 is 99.
        due("just 99", film("layer 99 1 1 hold;life 99 10;folds 5 500;").tired(0, 1), 500);
        due("less than 99", film("layer 99 1 1 hold;life 99 10;folds 5 501;").tired(0, 1), 0);
        due("pressed, just 5", film("layer 2 1 1 hold;layer 2 1 1 hold;life 5 10;folds 5 400;").tired(0, 1), 500);
        due("pressed, less", film("layer 2 1 1 hold;layer 2 1 1 hold;life 5 10;folds 5 401;").tired(0, 1), 0);
        due("just 1", tiredBy("life 1 10;folds 5 1000;", 1), 500);
        due("less than 1", tiredBy("life 1 10;folds 5 1001;", 1), 0);
        due("from 0 on: any", tiredBy("life 0 10;folds 5 9999;", 1), 500);
        due("a life of 1", tiredBy("life 0 1;folds 1 1;", 1), 1000);
        due("a life of 999", tiredBy("life 0 999;folds 999 1;", 1), 1000);
        due("a life of 999, one less", tiredBy("life 0 999;folds 998 1;", 1), 998);
    }

    private void folds() {
        says("FOLDS, at most 6: so many, 1 .. 9999, of a ROUND.");
        range("folds ", 1, 9999, " 1;");
        range("folds 1 ", 1, 9999, ";");
        String six = "folds 1 1;".repeat(6);
        due("six", film(six).count(2), 6);
        due("none", film("").count(2), 0);
        faulty(six + "folds 1 1;", 3, 60);
        due("six of them", tiredBy("life 0 10;" + six, 6), 600);
        due("9999 folds", tiredBy("life 0 1;folds 9999 1;", 1), 9999000);
        due("a fold", tiredBy("life 0 1;folds 1 9999;", 1), 1000);

        says("TIRED part of a LAYER: the sum, over FOLDS, of folds / life of its STRETCH then (that LIFE with the greatest s"
                + " up to it; none: no part).");
        String lives = "life 10 100;life 50 10;life 5 500;";
        int[][] partsByRound = {{20, 100}, {21, 10}, {100, 10}, {101, 2}, {200, 2}, {201, 0}};
        for (int[] part : partsByRound) {
            due("round " + part[0], tiredBy(lives + "folds 1 " + part[0] + ";", 1), part[1]);
        }
        due("together", tiredBy(lives + "folds 1 20;folds 1 21;folds 1 101;folds 9 201;", 4), 112);
        due("no lives", tiredBy("folds 9999 1;", 1), 0);
        due("parts are cut together alone", tiredBy("life 0 3;folds 1 1;folds 1 1;folds 1 1;", 3), 1000);

        says("It CRACKS in the first of FOLDS behind which the sum is 1 or more.");
        String start = "layer 2 1 99 hold;life 0 999;life 50 3;folds 1 20;";
        due("just 1", film(start + "folds 665 999;folds 1 999;folds 9 9;").cracks(0), 2);
        due("just below 1", film(start + "folds 665 999;").cracks(0), NONE);
        due("in the first", film(start.replace("folds 1", "folds 3")).cracks(0), 0);
        due("in the sixth", film("layer 2 1 9 hold;life 0 6;" + "folds 1 1;".repeat(6)).cracks(0), 5);
        due("no folds", film("layer 2 1 9 hold;life 0 1;").cracks(0), NONE);
        due("no lives", film("layer 2 1 9 hold;folds 9999 1;").cracks(0), NONE);
    }

    // ---- Terms 2 ----

    private void net() {
        says("THE NET has ROWS, 1 .. 6, and COLUMNS, 1 .. 6");
        range("net ", 1, 6, " 1;");
        range("net 1 ", 1, 6, ";");
        BentScreens x = film("net 6 1;");
        due("six rows", x.count(5), 6);
        due("one column", x.count(6), 1);
        x = film("net 1 6;");
        due("one row", x.count(5), 1);
        due("six columns", x.count(6), 6);

        says("POINTS by ROW and COLUMN; LINES from each POINT to the next one of its ROW; RAILS from each POINT to that below"
                + " it, in the next ROW (as long as there are such).");
        int[][] sizes = {{1, 1}, {1, 6}, {6, 1}, {6, 6}, {3, 4}};
        for (int[] size : sizes) {
            x = film("net " + size[0] + " " + size[1] + ";");
            for (int row = -1; row <= 6; row++) {
                for (int column = -1; column <= 6; column++) {
                    boolean point = row >= 0 && row < size[0] && column >= 0 && column < size[1];
                    String where = size[0] + " by " + size[1] + ": " + row + " " + column;
                    due("line " + where, x.leads(false, row, column), point && column + 1 < size[1]);
                    due("rail " + where, x.leads(true, row, column), point && row + 1 < size[0]);
                    due("lamp " + where, x.left(row, column), point ? 1000 : NONE);
                }
            }
        }
    }

    /** The k-th of the sixty LINES and RAILS of a net of 6 by 6, cracked. */
    private static boolean crackOf60(BentScreens x, int k) {
        return k < 30 ? x.crack(false, k / 5, k % 5) : x.crack(true, (k - 30) / 6, (k - 30) % 6);
    }

    private static boolean leadsOf60(BentScreens x, int k) {
        return k < 30 ? x.leads(false, k / 5, k % 5) : x.leads(true, (k - 30) / 6, (k - 30) % 6);
    }

    private void cracks() {
        says("CRACKS, at most 40, are told on the DAY of now, of a LINE or RAIL (told by the ROW and COLUMN of its first"
                + " POINT): it leads no more.");
        BentScreens x = film("net 6 6;");
        due("none", x.count(9), 0);
        for (int k = 0; k < 40; k++) {
            due("crack " + k, crackOf60(x, k), true);
        }
        due("forty", x.count(9), 40);
        for (int k = 40; k < 60; k++) {
            due("crack " + k, crackOf60(x, k), false);
        }
        due("forty stay", x.count(9), 40);
        for (int k = 0; k < 60; k++) {
            due("part " + k, leadsOf60(x, k), k >= 40);
        }
        for (int cracked = 7; cracked < 60; cracked += 41) {
            x = film("net 6 6;");
            crackOf60(x, cracked);
            for (int k = 0; k < 60; k++) {
                due("part " + k + " beside a crack", leadsOf60(x, k), k != cracked);
            }
        }
        x = film("net 1 2;");
        x.day(3);
        x.crack(false, 0, 0);
        x.view(2);
        due("the day before", x.leads(false, 0, 0), true);
        x.view(3);
        due("that day", x.leads(false, 0, 0), false);

        says("THE VIEW is a DAY up to now, or NOW (at first): CRACKS told by its end count.");
        x = film("net 2 3;");
        due("NOW at first", x.count(12), NONE);
        x.day(3);
        x.crack(false, 0, 0);
        due("NOW", x.count(18), 1);
        x.day(5);
        x.crack(false, 1, 0);
        due("later than now", x.view(6), false);
        int[] seen = {0, 0, 0, 1, 1, 2};
        for (int day = 0; day < 6; day++) {
            due("view " + day, x.view(day), true);
            due("cracks by " + day, x.count(18), seen[day]);
            due("ways by " + day, x.most(), 2 - seen[day]);
        }
        due("the view stays", x.count(12), 5);
        x.day(6);
        x.crack(true, 0, 2);
        due("told behind the view", x.count(18), 2);
        x.view(NONE);
        due("told by now", x.count(18), 3);
    }

    private static BentScreens cracked(String net, int[][] cracks) {
        BentScreens x = film(net);
        for (int[] c : cracks) {
            if (!x.crack(c[0] == 1, c[1], c[2])) {
                throw new IllegalStateException(net);
            }
        }
        return x;
    }

    private void ways() {
        says("The BEGINNING is joined to each POINT of COLUMN 0 by a FIRST LINE, the END to each POINT of the last COLUMN by a"
                + " LAST LINE; these always lead.");
        BentScreens x = film("net 6 1;");
        for (int row = 0; row < 6; row++) {
            due("no first line can crack", x.crack(false, row, -1), false);
            due("no last line can crack", x.crack(false, row, 0), false);
            due("a rail can", x.crack(true, row, 0), row < 5);
        }
        due("each row is a way", x.most(), 6);

        says("A WAY goes from the BEGINNING to the END by FIRST LINES, LINES, RAILS (either way) and LAST LINES that lead.");
        // Row 0 ends at column 1, row 1 at column 0.
        int[][] down = {{0, 0, 1}, {0, 1, 0}};
        x = cracked("net 2 3;", down);
        due("down by a rail", x.most(), 1);
        int[][] up = {{0, 1, 1}, {0, 0, 0}};
        x = cracked("net 2 3;", up);
        due("up by a rail", x.most(), 1);
        int[][] neither = {{0, 1, 1}, {0, 0, 0}, {1, 0, 1}};
        x = cracked("net 2 3;", neither);
        due("by a rail that leads no more", x.most(), 0);
        // Along row 0, down in column 2, back along row 1, down in column 1, along row 2.
        int[][] back = {{0, 0, 2}, {0, 1, 0}, {0, 1, 2}, {0, 2, 0}, {1, 0, 0}, {1, 0, 1}, {1, 0, 3}, {1, 1, 0}, {1, 1, 2},
            {1, 1, 3}};
        x = cracked("net 3 4;", back);
        due("lines are not gone back", x.most(), 0);

        says("MOST: as many WAYS as can be, no two of which have a FIRST LINE, LINE, RAIL or LAST LINE in common.");
        due("six", film("net 6 6;").most(), 6);
        due("one first line", film("net 1 6;").most(), 1);
        int[][] line = {{0, 0, 0}};
        due("one line", cracked("net 2 2;", line).most(), 1);
        // Two rows of LINES come to column 1, two others lead on, and one RAIL is between them.
        int[][] rail = {{0, 2, 0}, {0, 3, 0}, {0, 0, 1}, {0, 1, 1}};
        due("one rail", cracked("net 4 3;", rail).most(), 1);
        int[][] railUp = {{0, 0, 0}, {0, 1, 0}, {0, 2, 1}, {0, 3, 1}};
        x = cracked("net 4 3;", railUp);
        due("one rail upward", x.most(), 1);
        x.view(0);
        due("asked again", x.most(), 1);
        due("none", cracked("net 1 2;", line).most(), 0);
        // Both go through the POINT in the middle.
        int[][] point = {{0, 2, 0}, {0, 0, 1}};
        due("a point may be in common", cracked("net 3 3;", point).most(), 2);
    }

    private void dueFed(String what, BentScreens x, int... rows) {
        for (int row = 0; row < rows.length; row++) {
            due(what + ": row " + row, x.fed(row), rows[row] == 1);
        }
    }

    private void fed() {
        says("ROWS are FED together, if there are as many such WAYS, that end by the LAST LINES of just these ROWS.");
        dueFed("whole", film("net 6 6;"), 1, 1, 1, 1, 1, 1);
        int[][] ends = {{0, 2, 0}, {0, 0, 1}, {1, 0, 2}, {1, 1, 2}};
        dueFed("no way ends in row 0", cracked("net 3 3;", ends), 0, 1, 1);
        int[][] none = {{0, 0, 0}, {0, 1, 0}};
        dueFed("no way", cracked("net 2 2;", none), 0, 0);

        says("FED: gone through by numbers, each ROW that is FED together with those that were already.");
        int[][] below = {{0, 1, 0}};
        dueFed("one line, row 0 first", cracked("net 2 2;", below), 1, 0);
        int[][] above = {{0, 0, 0}};
        dueFed("one line, row 0 first", cracked("net 2 2;", above), 1, 0);
        int[][] skipped = {{0, 0, 0}, {1, 0, 1}};
        dueFed("a row that is not does not stop the next", cracked("net 3 2;", skipped), 0, 1, 1);
        int[][] turned = {{0, 2, 0}};
        dueFed("two lines, the first two rows", cracked("net 3 2;", turned), 1, 1, 0);
        // Row 0 takes a WAY that must be led elsewhere, so that row 1 is FED, too.
        int[][] across = {{0, 0, 2}, {0, 2, 0}, {1, 0, 1}, {1, 1, 2}};
        dueFed("led elsewhere", cracked("net 3 4;", across), 1, 1, 0);
        int[][] above2 = {{0, 0, 0}, {1, 0, 0}, {1, 0, 2}, {1, 1, 1}, {1, 1, 3}};
        dueFed("led elsewhere", cracked("net 3 4;", above2), 1, 1, 0);
        int[][] high = {{0, 0, 0}, {0, 1, 0}, {1, 2, 1}};
        dueFed("led elsewhere", cracked("net 4 3;", high), 1, 1, 0, 0);
    }

    private void dueCut(String what, BentScreens x, int... parts) {
        for (int k = 0; k < parts.length; k++) {
            due(what + ": cut " + k, x.cut(k), parts[k]);
        }
    }

    private void cut() {
        says("THE CUT: the fewest FIRST LINES, LINES, RAILS, LAST LINES without which there is no WAY (as many as MOST); of"
                + " several that which leaves the fewest POINTS joined to the BEGINNING (there is one such alone).");
        dueCut("whole: all first lines", film("net 6 6;"), 6, 0, 0, 6, 0);
        dueCut("one point", film("net 1 1;"), 1, 0, 0, 1, 0);
        int[][] none = {{0, 0, 0}, {0, 1, 0}};
        dueCut("no way, nothing to cut", cracked("net 2 2;", none), 0, 0, 0, 0, 0);
        int[][] line = {{0, 0, 0}};
        BentScreens x = cracked("net 2 2;", line);
        dueCut("the line that is left", x, 1, 1, 0, 0, 0);
        due("the line that is left", x.inCut(0, 1, 0), true);
        int[][] rail = {{0, 2, 0}, {0, 0, 1}, {0, 1, 1}};
        x = cracked("net 3 3;", rail);
        dueCut("the rail that is left", x, 1, 0, 1, 0, 0);
        due("the rail that is left", x.inCut(1, 1, 1), true);
        int[][] railUp = {{0, 0, 0}, {0, 1, 1}, {0, 2, 1}, {1, 1, 0}};
        x = cracked("net 3 3;", railUp);
        dueCut("the rail upward that is left", x, 1, 0, 1, 0, 0);
        due("the rail upward that is left", x.inCut(1, 0, 1), true);
        // Row 1 ends at once: its one POINT stays joined, and of row 0 none.
        int[][] first = {{0, 1, 0}, {1, 0, 0}};
        x = cracked("net 2 2;", first);
        dueCut("a first line is nearer than its line", x, 1, 0, 0, 1, 0);
        due("that of row 0", x.inCut(2, 0, 0), true);
        due("not that of row 1", x.inCut(2, 1, 0), false);
        // Both LINES of row 1 would do; the nearer one leaves fewer.
        int[][] two = {{0, 0, 0}, {0, 0, 1}};
        x = cracked("net 2 3;", two);
        due("the nearer line", x.inCut(0, 1, 0), true);
        // All POINTS before the last COLUMN are joined, whichever of both the WAY goes by.
        int[][] joined = {{0, 1, 1}, {1, 0, 0}};
        dueCut("no first line", cracked("net 2 3;", joined), 1, 1, 0, 0, 0);
        int[][] lowest = {{0, 5, 0}};
        dueCut("six rows, two columns", cracked("net 6 2;", lowest), 5, 5, 0, 0, 0);
        dueCut("six rows, six columns", cracked("net 6 6;", lowest), 5, 5, 0, 0, 0);
        int[][] many = {{0, 0, 0}, {0, 0, 2}, {0, 2, 0}, {0, 2, 1}, {0, 4, 1}, {0, 5, 2}, {1, 2, 0}, {1, 3, 0}, {1, 3, 2},
            {1, 4, 0}};
        BentScreens y = cracked("net 6 4;", many);
        dueCut("a line and three first lines", y, 4, 1, 0, 3, 0);
        due("that line", y.inCut(0, 1, 0), true);
        dueFed("a line and three first lines", y, 1, 1, 1, 1, 0, 0);
        int[][] twice = {{0, 0, 2}, {0, 1, 2}, {0, 2, 0}, {0, 2, 3}, {0, 4, 0}, {1, 0, 1}, {1, 0, 3}, {1, 1, 3}, {1, 2, 1},
            {1, 3, 2}, {1, 3, 3}};
        y = cracked("net 5 5;", twice);
        dueCut("two lines of a row", y, 2, 2, 0, 0, 0);
        due("the first one", y.inCut(0, 3, 0), true);
        due("the fourth one", y.inCut(0, 3, 3), true);
        due("not the further line", x.inCut(0, 1, 1), false);
    }

    // ---- Terms 3 ----

    private void lamps() {
        says("LAMPS are the POINTS.");
        BentScreens x = film("net 2 3;");
        due("all", x.darks(), 0);
        x.wet(200);
        due("all", x.darks(), 6);
        due("the last", x.left(1, 2), 1000);
        due("none below", x.left(2, 2), NONE);
        due("none beside", x.left(1, 3), NONE);
    }

    private void pictures() {
        says("PICTURES, at most 12: for so many hours, 1 .. 999, LAMPS of ROWS a .. b, COLUMNS c .. d are lit with a LIGHT,"
                + " 1 .. 9.");
        BentScreens x = film("net 4 5;");
        due("none", x.count(10), 0);
        int[][] refused = {{0, 100}, {10, 100}, {-1, 100}, {5, 0}, {5, 1000}, {5, -1}, {MIN, MAX}, {MAX, MIN}};
        for (int[] p : refused) {
            due("light " + p[0] + ", hours " + p[1], x.picture(0, 0, 0, 0, p[0], p[1]), NONE);
        }
        due("none of these", x.count(10), 0);
        due("rows 1, 2, columns 1 .. 3", x.picture(1, 2, 1, 3, 5, 100), 1);
        for (int row = 0; row < 4; row++) {
            for (int column = 0; column < 5; column++) {
                boolean lit = row >= 1 && row <= 2 && column >= 1 && column <= 3;
                due("lamp " + row + " " + column, x.left(row, column), lit ? 950 : 1000);
            }
        }
        due("the least light", x.picture(0, 0, 0, 0, 1, 10), 2);
        due("it counts", x.left(0, 0), 999);
        due("the greatest light, the least hours", x.picture(0, 0, 1, 1, 9, 1), 3);
        due("the greatest hours, all lamps", x.picture(0, 3, 0, 4, 1, 999), 4);
        due("9 and 999 hours", x.left(0, 1), 900);
        due("the last lamp", x.left(3, 4), 901);
        for (int k = 5; k <= 12; k++) {
            due("picture " + k, x.picture(3, 3, 4, 4, 1, 1), k);
        }
        due("a 13th", x.picture(3, 3, 4, 4, 9, 999), NONE);
        due("twelve stay", x.count(10), 12);
        due("AGE is 999 and 8", x.left(3, 4), 900);

        x = film("net 6 6;");
        x.picture(5, 5, 5, 5, 1, 10);
        due("the last lamp of all", x.left(5, 5), 999);
        due("above it", x.left(4, 5), 1000);
        due("beside it", x.left(5, 4), 1000);

        says("AGE of a LAMP: hours * LIGHT of all PICTURES that have it, together; LEFT: 1000 less AGE / 10, cut, 0 at least.");
        x = new BentScreens();
        x.picture(0, 0, 0, 0, 9, 1);
        due("AGE 9", x.left(0, 0), 1000);
        x.picture(0, 0, 0, 0, 1, 1);
        due("AGE 10", x.left(0, 0), 999);
        x.picture(0, 0, 0, 0, 9, 998);
        x.picture(0, 0, 0, 0, 1, 998);
        due("AGE 9990", x.left(0, 0), 1);
        x.picture(0, 0, 0, 0, 9, 1);
        due("AGE 9999", x.left(0, 0), 1);
        x.picture(0, 0, 0, 0, 1, 1);
        due("AGE 10000", x.left(0, 0), 0);
        x.picture(0, 0, 0, 0, 9, 999);
        due("AGE 18991", x.left(0, 0), 0);

        says("UNLIKE: the greatest LEFT less the least.");
        due("one lamp", x.unlike(), 0);
        x = film("net 2 2;");
        due("new", x.unlike(), 0);
        x.picture(1, 1, 1, 1, 1, 10);
        due("1000 less 999", x.unlike(), 1);
        x.picture(0, 0, 0, 0, 9, 999);
        x.picture(0, 0, 0, 0, 9, 999);
        due("1000 less 0", x.unlike(), 1000);
        x.picture(0, 1, 0, 1, 1, 10);
        due("999 less 0", x.unlike(), 999);
    }

    private void dark() {
        says("DARK: LEFT is 0, or its ROW is not FED, or it is DAMP.");
        BentScreens x = film("net 1 2;");
        x.picture(0, 0, 0, 0, 9, 999);
        x.picture(0, 0, 0, 0, 9, 112);
        due("LEFT is 1", x.left(0, 0), 1);
        due("LEFT is 1", x.dark(0, 0), false);
        x.picture(0, 0, 0, 0, 1, 1);
        due("LEFT is 0", x.dark(0, 0), true);
        due("beside it", x.dark(0, 1), false);
        due("one", x.darks(), 1);
        x = film("net 2 3;");
        due("none", x.darks(), 0);
        x.crack(false, 1, 1);
        due("not fed, before the crack", x.dark(1, 0), true);
        due("not fed, behind the crack", x.dark(1, 2), true);
        due("fed", x.dark(0, 2), false);
        due("a row", x.darks(), 3);
        x = new BentScreens();
        x.wet(1);
        due("damp alone", x.dark(0, 0), true);
        due("damp alone", x.darks(), 1);
    }

    private void damp() {
        says("DAMP day by day, of each LAMP (0 at first): each day, of all at once, (4 * its own + the four beside it, 100 for"
                + " each that is beyond the rim) / 8, cut.");
        BentScreens x = new BentScreens();
        int[] days = {0, 50, 75, 87, 93, 96, 98, 99, 99, 99};
        for (int day = 0; day < days.length; day++) {
            x.wet(day);
            due("one lamp, day " + day, x.damp(0, 0), days[day]);
        }
        x = film("net 2 3;");
        x.wet(2);
        // Behind a day 25 in the corners and 12 between: (100 + 100 + 100 + 25 + 12) / 8, (48 + 100 + 12 + 25 + 25) / 8.
        for (int row = 0; row < 2; row++) {
            for (int column = 0; column < 3; column++) {
                due("of all at once: " + row + " " + column, x.damp(row, column), column == 1 ? 26 : 42);
            }
        }
        x = film("net 3 3;");
        x.wet(1);
        due("nothing beyond the rim beside it", x.damp(1, 1), 0);
        due("one beyond the rim", x.damp(2, 1), 12);
        due("two beyond the rim", x.damp(2, 2), 25);
        x = film("net 1 3;");
        x.wet(1);
        due("two beyond the rim, above and below", x.damp(0, 1), 25);
        due("three beyond the rim", x.damp(0, 2), 37);

        says("It is DAMP, if that is 50 or more behind so many days as are told (0 at first, up to 200).");
        x = film("net 2 5;");
        due("at first", x.count(13), 0);
        due("at first", x.darks(), 0);
        x.wet(5);
        due("49", x.damp(0, 2), 49);
        due("49 is not", x.dark(0, 2), false);
        x = film("net 2 3;");
        x.wet(4);
        due("50", x.damp(0, 1), 50);
        due("50 is", x.dark(0, 1), true);
        due("200 days", x.wet(200), true);
        due("201 days", x.wet(201), false);
        due("below 0", x.wet(-1), false);
        due("as told", x.count(13), 200);
        due("0 days", x.wet(0), true);
        due("dry", x.darks(), 0);
    }

    // ---- Terms 4 ----

    private void sheet() {
        says("THE SHEET is 1 .. 10 wide, 1 .. 10 high (1, 1 at first), of squares");
        range("sheet ", 1, 10, " 1;");
        range("sheet 1 ", 1, 10, ";");
        BentScreens x = new BentScreens();
        due("at first", x.count(7), 1);
        due("at first", x.count(8), 1);
        due("at first", x.value(0, 0, 1, 1), 0);
        due("no wider", x.value(0, 0, 2, 1), NONE);
        due("no higher", x.value(0, 0, 1, 2), NONE);
        x = film("sheet 10 1;");
        due("ten wide", x.value(0, 0, 10, 1), 0);
        due("ten wide", x.value(9, 0, 1, 1), 0);
        due("no wider", x.value(10, 0, 1, 1), NONE);
        x = film("sheet 1 10;");
        due("ten high", x.value(0, 0, 1, 10), 0);
        due("ten high", x.value(0, 9, 1, 1), 0);
        due("no higher", x.value(0, 10, 1, 1), NONE);

        says("FLAWS, at most 20, are squares.");
        String flaws = "flaw 0 0;".repeat(20);
        due("twenty", film(flaws).count(4), 20);
        due("none", film("").count(4), 0);
        faulty(flaws + "flaw 0 0;", 3, 180);
        for (int k = 0; k < 10; k++) {
            taken("sheet 10 10;flaw " + k + " 9;flaw 9 " + k + ";");
        }
        faulty("sheet 10 10;flaw 10 0;", 2, 17);
        faulty("sheet 10 10;flaw 0 10;", 2, 19);
        x = film("sheet 10 10;panel 1 1 1;flaw 9 0;flaw 0 9;flaw 9 9;flaw 4 5;");
        for (int k = 0; k < 100; k++) {
            boolean flaw = k == 9 || k == 90 || k == 99 || k == 54;
            due("square " + k % 10 + " " + k / 10, x.value(k % 10, k / 10, 1, 1), flaw ? 0 : 1);
        }
    }

    private void kinds() {
        says("PANELS, at most 4 KINDS, from 0 on: wide, high (1 .. 10 each; not turned), and worth, 1 .. 999.");
        range("panel ", 1, 10, " 1 1;");
        range("panel 1 ", 1, 10, " 1;");
        range("panel 1 1 ", 1, 999, ";");
        String four = "panel 1 1 1;panel 1 1 2;panel 1 1 3;panel 2 1 999;";
        BentScreens x = film(four + "sheet 2 1;");
        due("four", x.count(3), 4);
        due("the greatest worth", x.value(0, 0, 2, 1), 999);
        due("the fourth", x.panel(0, 0), 3);
        due("the third", film(four).panel(0, 0), 2);
        due("the first", film("panel 1 1 1;").panel(0, 0), 0);
        due("the least worth", film("panel 1 1 1;").value(0, 0, 1, 1), 1);
        due("none", film("").count(3), 0);
        faulty(four + "panel 1 1 1;", 3, four.length());
        due("not turned", film("sheet 1 2;panel 2 1 5;").value(0, 0, 1, 2), 0);
        due("not turned", film("sheet 2 1;panel 1 2 5;").value(0, 0, 2, 1), 0);
        due("as wide and high as can be", film("sheet 10 10;panel 10 10 7;").value(0, 0, 10, 10), 7);
        due("wider than the sheet", film("sheet 9 10;panel 10 10 7;").value(0, 0, 9, 10), 0);
        due("higher than the sheet", film("sheet 10 9;panel 10 10 7;").value(0, 0, 10, 9), 0);
    }

    private void worth() {
        says("A piece without FLAWS that is just as wide and high as a PANEL may be one; any piece may be waste");
        String panel = "sheet 4 3;panel 3 2 7;";
        due("just as large", film(panel).value(1, 1, 3, 2), 7);
        due("less wide", film(panel).value(1, 1, 2, 2), 0);
        due("less high", film(panel).value(1, 1, 3, 1), 0);
        due("larger, the rest is waste", film(panel).value(0, 0, 4, 3), 7);
        for (int k = 0; k < 6; k++) {
            String flaw = "flaw " + (1 + k % 3) + " " + (1 + k / 3) + ";";
            due(flaw, film(panel + flaw).value(1, 1, 3, 2), 0);
        }
        for (String flaw : new String[] {"flaw 0 1;", "flaw 0 2;", "flaw 1 0;", "flaw 3 0;"}) {
            due(flaw + " is beside it", film(panel + flaw).value(1, 1, 3, 2), 7);
        }

        says("any may be cut from edge to edge, upright or across, in two. WORTH of a piece: the most that can be made of"
                + " it.");
        // Four lie round about the square in the middle, which no cut from edge to edge can do.
        due("edge to edge", film("sheet 3 3;panel 2 1 5;panel 1 2 5;flaw 1 1;").value(0, 0, 3, 3), 15);
        due("upright", film("sheet 2 1;panel 1 1 5;panel 2 1 9;").value(0, 0, 2, 1), 10);
        due("across", film("sheet 1 2;panel 1 1 5;panel 1 2 9;").value(0, 0, 1, 2), 10);
        due("not cut", film("sheet 2 1;panel 1 1 5;panel 2 1 11;").value(0, 0, 2, 1), 11);
        due("the last cut upright", film("sheet 10 1;panel 9 1 5;flaw 9 0;").value(0, 0, 10, 1), 5);
        due("the last cut across", film("sheet 1 10;panel 1 9 5;flaw 0 9;").value(0, 0, 1, 10), 5);
        due("all squares", film("sheet 10 10;panel 1 1 999;").value(0, 0, 10, 10), 99900);
    }

    /** KIND, x and y of each PANEL of THE PLAN, and how many there are. */
    private void duePlan(String text, int... kindXY) {
        BentScreens x = film(text);
        due(text + " panels", x.panels(), kindXY.length);
        for (int k = 0; k < kindXY.length; k++) {
            due(text + " kind of " + k, x.panel(k, 0), kindXY[k] / 100);
            due(text + " x of " + k, x.panel(k, 1), kindXY[k] / 10 % 10);
            due(text + " y of " + k, x.panel(k, 2), kindXY[k] % 10);
        }
        due(text + " behind the last", x.panel(kindXY.length, 0), NONE);
    }

    private void plan() {
        says("THE PLAN of a piece: if it is WORTH 0, waste; else a PANEL, if that is WORTH it (the least KIND)");
        duePlan("");
        duePlan("panel 1 1 5;flaw 0 0;");
        duePlan("sheet 2 1;panel 1 1 3;panel 2 1 6;panel 2 1 6;", 100);
        duePlan("sheet 2 1;panel 2 1 3;panel 2 1 6;panel 1 1 3;", 100);
        duePlan("sheet 2 1;panel 1 1 4;panel 2 1 6;", 0, 10);

        says("else the first cut of two pieces that are together WORTH it, upright ones by place first, then across; the left"
                + " (upper) piece's PLAN, then the other one's.");
        duePlan("sheet 2 2;panel 1 1 1;", 0, 1, 10, 11);
        duePlan("sheet 2 2;panel 2 1 1;", 0, 1);
        duePlan("sheet 3 1;panel 1 1 1;panel 2 1 2;", 0, 110);
        duePlan("sheet 1 3;panel 1 1 1;panel 1 2 2;", 0, 101);
        duePlan("sheet 3 1;panel 2 1 2;", 10);
        duePlan("sheet 3 1;panel 2 1 2;flaw 2 0;", 0);
        duePlan("sheet 4 3;panel 2 2 10;panel 1 3 4;flaw 1 1;", 100, 21);
        duePlan("sheet 10 1;panel 1 1 1;flaw 4 0;", 0, 10, 20, 30, 50, 60, 70, 80, 90);
        BentScreens x = film("sheet 10 10;panel 1 1 1;");
        due("as many as there may be", x.panels(), 100);
        due("the last", x.panel(99, 1) * 10 + x.panel(99, 2), 99);
        due("behind it", x.panel(100, 0), NONE);
    }
}
