/** Each promise by itself: ordinary inputs, the edges that the document names, wrong inputs. */
public final class PromisesTest {
    private static final int NONE = BentScreens.NONE;
    private static final int MAX = Integer.MAX_VALUE;
    private static final int MIN = Integer.MIN_VALUE;
    private static final String FILM = "layer 2 1 10 hold;layer 2 3 5 slide;layer 4 1 99 hold;life 0 100;life 5 10;"
            + "folds 20 400;folds 30 100;sheet 4 3;panel 2 2 10;panel 1 3 4;flaw 1 1;net 2 3;";

    private static int wrong = 0;
    private static int checks = 0;

    private static void due(int promise, String what, long got, long want) {
        checks++;
        if (got != want) {
            wrong++;
            System.out.println("promise " + promise + ": " + what + " answered " + got + ", due is " + want);
        }
    }

    private static void due(int promise, String what, boolean got, boolean want) {
        due(promise, what, got ? 1 : 0, want ? 1 : 0);
    }

    /** A text that has this FAULT at this place. */
    private static void faulty(int promise, boolean film, String text, int fault, int place) {
        BentScreens x = new BentScreens();
        due(promise, text, film ? Texts.film(x, text) : Texts.rules(x, text), NONE);
        due(5, text + " fault", x.fault(0), fault);
        due(5, text + " place", x.fault(1), place);
    }

    private static void fine(int promise, boolean film, String text, int lines) {
        BentScreens x = new BentScreens();
        due(promise, text, film ? Texts.film(x, text) : Texts.rules(x, text), lines);
        due(5, text + " fault", x.fault(0), 0);
        due(5, text + " place", x.fault(1), NONE);
    }

    public static void main(String[] args) {
        aNewObject();
        theTape();
        filmTexts();
        filmStaysOrGoes();
        layersAndNeutral();
        stretchAndRounds();
        orders();
        tiring();
        daysAndViews();
        cracksInTheNet();
        waysAndCut();
        waysGoOnward();
        pictures();
        dampAndDark();
        sheetWorth();
        sheetPlan();
        mending();
        hands();
        rounds();
        tests();
        quarrels();
        nextTest();
        rulesTexts();
        rulesJudge();
        counts();
        images();
        System.out.println(wrong == 0 ? checks + " answers as due" : wrong + " answers are not as due");
        System.exit(wrong == 0 ? 0 : 1);
    }

    private static void aNewObject() {
        BentScreens x = new BentScreens();
        int[] due = {0, 0, 0, 0, 0, 1, 1, 1, 1, 0, 0, 0, NONE, 0, 0, 0, 0, 0, 0};
        for (int what = 0; what < due.length; what++) {
            due(1, "count " + what, x.count(what), due[what]);
        }
        for (int k = 0; k < 3; k++) {
            due(1, "again " + k, x.again(k), false);
        }
        due(1, "fault", x.fault(0), 0);
        due(1, "its place", x.fault(1), NONE);
        due(1, "tape", x.end(1), NONE);
        due(1, "NONE", BentScreens.NONE, -1);
    }

    private static void theTape() {
        BentScreens x = new BentScreens();
        for (int k = 1; k <= 25; k++) {
            due(2, "feed " + k, x.feed(0x20202020, 0x20202020, 0x20202020, 0x20202020, 0x20202020), 20 * k);
        }
        due(2, "feed beyond 500", x.feed(0, 0, 0, 0, 0), NONE);
        due(2, "nothing came", x.end(500), 500);
        due(3, "more than there are", x.end(501), NONE);
        due(3, "481 of them", x.end(481), 481);
        due(2, "feed beyond 500 by one", x.feed(0, 0, 0, 0, 0), NONE);
        due(3, "480 of them", x.end(480), 480);
        due(2, "feed up to 500", x.feed(0x20202020, 0x20202020, 0x20202020, 0x20202020, 0x20202020), 500);
        due(3, "below 0", x.end(-1), NONE);
        due(3, "least", x.end(MIN), NONE);
        due(3, "greatest", x.end(MAX), NONE);
        due(4, "500 blanks", x.film(), 0);
        due(4, "the tape is empty", x.end(1), NONE);
        due(2, "highest byte first", x.feed(0x6e657420, 0x3520343b, 0x40404040, 0x80ffffff, -1), 20);
        due(3, "eight", x.end(8), 8);
        due(4, "net 5 4;", x.film(), 1);
        due(4, "rows", x.count(5), 5);
        due(4, "columns", x.count(6), 4);
        Texts.put(x, "what");
        due(4, "a fault", x.film(), NONE);
        due(4, "the tape is empty, too", x.end(1), NONE);
        Texts.put(x, "nets");
        x.end(3);
        due(4, "what was cut off is gone", x.film(), NONE);
        due(5, "what was cut off is gone", x.fault(1), 3);
        Texts.put(x, "net 1 15;");
        x.end(7);
        due(4, "what was cut off is gone", x.film(), NONE);
        due(5, "what was cut off is gone", x.fault(1), 7);
        due(5, "another what", x.fault(2), NONE);
        due(5, "another what", x.fault(-1), NONE);
        Texts.put(x, "net 1 1;");
        x.film();
        due(5, "the latest", x.fault(0), 0);
        due(5, "the latest", x.fault(1), NONE);
    }

    private static void filmTexts() {
        fine(4, true, "", 0);
        fine(4, true, " \n ", 0);
        fine(4, true, FILM, 12);
        fine(4, true, "\nlayer\n1 1 1hold;net1 0001 ; ", 2);
        fine(4, true, "layer 99 99 99 slide;life 99 999;folds 9999 9999;panel 10 10 999;sheet 10 10;flaw 9 9;net 6 6;", 7);
        fine(4, true, "life 0 1;life 1 1;flaw 9 9;sheet 10 10;", 4);
        // 1: no text goes on
        faulty(4, true, "layer", 1, 5);
        faulty(4, true, "layer  \n", 1, 8);
        faulty(4, true, "net 1 1", 1, 7);
        faulty(4, true, "layer 1 1 1", 1, 11);
        faulty(4, true, "layer 1 1 1 net 1 1;", 1, 12);
        faulty(4, true, "layer 1 1 net 1 1;", 1, 10);
        faulty(4, true, "net 1 1 net 1 1;", 1, 8);
        faulty(4, true, "net 1 1 1;", 1, 8);
        faulty(4, true, "layer 1 1 1;", 1, 11);
        faulty(4, true, "layer 1 1 1 holds;", 1, 12);
        faulty(4, true, "layers 1 1 1 hold;", 1, 0);
        faulty(4, true, "net 0 9;lay", 1, 8);
        faulty(4, true, "net 12345 1;", 1, 4);
        faulty(4, true, "net 00001 1;", 1, 4);
        faulty(4, true, "net 1@1;", 1, 5);
        faulty(4, true, "net 1 \u00ff;", 1, 6);
        faulty(4, true, "net 1 1:", 1, 7);
        faulty(4, true, "net 1 1;;", 1, 8);
        faulty(4, true, "net\t1 1;", 1, 3);
        faulty(4, true, "NET 1 1;", 1, 0);
        faulty(4, true, "let 1 1;", 1, 0);
        faulty(4, true, "netz 1 1;", 1, 0);
        faulty(4, true, "anet 1 1;", 1, 0);
        faulty(4, true, "a".repeat(500), 1, 0);
        faulty(4, true, "1".repeat(500), 1, 0);
        faulty(4, true, "bar;", 1, 0);
        // 2: a NUMBER that can't be
        faulty(4, true, "layer 0 0 0 hold;", 2, 6);
        faulty(4, true, "layer 1 100 1 hold;", 2, 8);
        faulty(4, true, "layer 1 1 100 hold;", 2, 10);
        faulty(4, true, "life 100 1;", 2, 5);
        faulty(4, true, "life 0 0;", 2, 7);
        faulty(4, true, "life 0 1000;", 2, 7);
        faulty(4, true, "folds 0 1;", 2, 6);
        faulty(4, true, "folds 1 0;", 2, 8);
        faulty(4, true, "panel 11 1 1;", 2, 6);
        faulty(4, true, "panel 1 0 1;", 2, 8);
        faulty(4, true, "panel 1 11 1;", 2, 8);
        faulty(4, true, "panel 1 1 0;", 2, 10);
        faulty(4, true, "sheet 11 1;", 2, 6);
        faulty(4, true, "sheet 1 0;", 2, 8);
        faulty(4, true, "net 0 1;", 2, 4);
        faulty(4, true, "net 1 7;", 2, 6);
        faulty(4, true, "layer 100 1 1 hold;", 2, 6);
        faulty(4, true, "layer 1 0 1 hold;", 2, 8);
        faulty(4, true, "layer 1 1 0 hold;", 2, 10);
        faulty(4, true, "panel 1 1 1000;", 2, 10);
        faulty(4, true, "sheet 10 10;flaw 10 0;", 2, 17);
        faulty(4, true, "sheet 10 10;flaw 0 10;", 2, 19);
        faulty(4, true, "sheet 0 1;", 2, 6);
        faulty(4, true, "sheet 1 11;", 2, 8);
        faulty(4, true, "net 7 1;", 2, 4);
        faulty(4, true, "net 1 0;", 2, 6);
        // 3: one too many; of several the first by place
        faulty(4, true, "net 1 1;net 1 1;", 3, 8);
        faulty(4, true, "sheet 1 1;net 1 1;sheet 99 1;", 3, 18);
        faulty(4, true, "life 7 1;life 8 1;life 7 0;", 3, 18);
        faulty(4, true, "life 7 0;life 7 1;", 2, 7);
        faulty(4, true, "layer 1 1 1 hold;".repeat(7), 3, 102);
        faulty(4, true, "life 1 1;life 2 1;life 3 1;life 4 1;life 5 1;", 3, 36);
        faulty(4, true, "folds 1 1;".repeat(7), 3, 60);
        faulty(4, true, "panel 1 1 1;".repeat(5), 3, 48);
        faulty(4, true, "flaw 0 0;".repeat(21), 3, 180);
        fine(4, true, "layer 1 1 1 hold;".repeat(6) + "flaw 0 0;".repeat(20) + "folds 1 1;".repeat(6), 32);
        // 4: a flaw that is not on the sheet
        faulty(4, true, "flaw 0 0;flaw 0 1;", 4, 9);
        faulty(4, true, "flaw 2 1;flaw 1 2;flaw 3 0;sheet 3 2;", 4, 9);
        faulty(4, true, "flaw 5 5;life 1 1;", 4, 0);
        faulty(4, true, "flaw 5 5;net 7 7;", 2, 13);
        faulty(4, true, "flaw 5 5;net 1 1;net 1 1;", 3, 17);
    }

    private static void filmStaysOrGoes() {
        BentScreens x = Texts.withFilm(FILM);
        x.day(3);
        x.view(2);
        x.crack(false, 0, 0);
        x.picture(0, 0, 0, 0, 1, 1);
        x.wet(4);
        x.hand(1, 1, 1);
        x.test(1, 1, 1, 1);
        Texts.rules(x, "bar;price 1;");
        due(4, "a fault", Texts.film(x, "net 1 1;net"), NONE);
        int[] stays = {3, 2, 2, 2, 1, 2, 3, 4, 3, 1, 1, 3, 2, 4, 12, 1, 1, 2, 0};
        for (int what = 0; what < stays.length; what++) {
            due(4, "behind a fault: count " + what, x.count(what), stays[what]);
        }
        due(4, "another one", Texts.film(x, "life 1 1;"), 1);
        int[] goes = {0, 1, 0, 0, 0, 1, 1, 1, 1, 0, 0, 3, 2, 4, 1, 1, 1, 2, 0};
        for (int what = 0; what < goes.length; what++) {
            due(4, "another one: count " + what, x.count(what), goes[what]);
        }
        due(4, "worth of an elder sheet", x.value(0, 0, 1, 1), 0);
    }

    private static void layersAndNeutral() {
        BentScreens x = Texts.withFilm("layer 3 7 11 hold;layer 4 5 12 slide;layer 5 3 13 hold;layer 6 2 14 slide;");
        int[][] due = {{3, 7, 11, 0, 0, 0}, {4, 5, 12, 1, 3, 0}, {5, 3, 13, 0, 7, 2}, {6, 2, 14, 1, 12, 2}};
        for (int layer = 0; layer < 4; layer++) {
            for (int what = 0; what < 6; what++) {
                due(6, "layer " + layer + " " + what, x.layer(layer, what), due[layer][what]);
            }
        }
        due(6, "none", x.layer(4, 0), NONE);
        due(6, "none", x.layer(-1, 4), NONE);
        due(6, "another what", x.layer(0, 6), NONE);
        due(6, "another what", x.layer(0, -1), NONE);
        // (21 * 1.5 + 20 * 5) / 41 = 3.2073..; (15 * 9.5 + 12 * 15) / 27 = 11.9444..
        due(7, "first block", x.neutral(0), 3207);
        due(7, "first block", x.neutral(1), 3207);
        due(7, "second block", x.neutral(2), 11944);
        due(7, "second block", x.neutral(3), 11944);
        due(7, "none", x.neutral(4), NONE);
        due(7, "none", x.neutral(MIN), NONE);
        x = Texts.withFilm("layer 99 99 1 hold;".repeat(6));
        due(7, "greatest", x.neutral(5), 297000);
        due(8, "greatest", x.stretch(5, 1), 297000000);
        due(8, "greatest, pressed", x.stretch(0, 1), -297000000);
    }

    private static void stretchAndRounds() {
        BentScreens x = Texts.withFilm("layer 3 7 11 hold;layer 4 5 12 slide;layer 5 3 13 hold;layer 6 2 14 slide;");
        // bottom of 0: -131.5/41; top of 1: 7 - 131.5/41 = 155.5/41
        due(8, "pressed, cut toward 0", x.stretch(0, 7), -458188);
        due(8, "pulled", x.stretch(1, 7), 541811);
        due(8, "round 0", x.stretch(0, 0), -2000000000);
        due(8, "round 10000", x.stretch(0, 10000), -2000000000);
        due(8, "no layer", x.stretch(4, 5), -2000000000);
        due(8, "no layer", x.stretch(-1, 5), -2000000000);
        due(8, "round 9999", x.stretch(0, 9999), -320);
        BentScreens one = Texts.withFilm("layer 5 1 5 hold;");
        due(8, "as far: the top", one.stretch(0, 500), 5000);
        due(9, "just its mark", one.bears(0, 500), true);
        due(9, "a bit more", one.bears(0, 499), false);
        due(9, "round 0", one.bears(0, 0), false);
        due(9, "round 9999", one.bears(0, 9999), true);
        due(9, "round 10000", one.bears(0, 10000), false);
        due(9, "no layer", one.bears(1, 500), false);
        due(9, "no layer", one.bears(-1, 500), false);
        due(10, "just its mark", one.least(), 500);
        due(10, "no layers", new BentScreens().least(), NONE);
        due(10, "thin", Texts.withFilm("layer 1 1 99 hold;").least(), 6);
        due(10, "greatest that is", Texts.withFilm("layer 99 1 5 hold;").least(), 9900);
        due(10, "there is none", Texts.withFilm("layer 99 1 4 hold;").least(), 10000);
        due(10, "of all layers", Texts.withFilm("layer 2 1 1 slide;layer 4 1 1 slide;layer 3 1 1 hold;").least(), 2000);
        due(11, "the least of several", Texts.withFilm("layer 2 1 1 slide;layer 4 1 2 slide;layer 2 5 1 hold;").worst(1), 0);
        BentScreens two = Texts.withFilm("layer 2 1 1 slide;layer 5 1 2 slide;layer 2 5 1 hold;");
        due(11, "by mark", two.worst(9999), 1);
        due(11, "round 0", two.worst(0), NONE);
        due(11, "round 10000", two.worst(10000), NONE);
        due(11, "no layers", new BentScreens().worst(5), NONE);
    }

    private static void orders() {
        BentScreens x = Texts.withFilm("layer 2 1 10 hold;layer 2 3 5 slide;layer 4 1 99 hold;");
        due(12, "round", x.order(0), 300);
        due(12, "the least row stays", x.order(1) * 100 + x.order(2) * 10 + x.order(3), 12);
        // The weak layer has its place in the middle of three that hold.
        BentScreens y = Texts.withFilm("layer 2 2 1 hold;layer 2 2 9 hold;layer 2 2 9 slide;");
        due(12, "round", y.order(0), 1000);
        due(12, "as told", y.least(), 3000);
        due(12, "row", y.order(1) * 100 + y.order(2) * 10 + y.order(3), 102);
        due(12, "layers stay as told", y.layer(0, 2), 1);
        // GLUE stays where it is: alone is whoever stands in the first place.
        BentScreens z = Texts.withFilm("layer 2 2 9 slide;layer 2 2 9 hold;layer 2 2 1 hold;");
        due(12, "round", z.order(0), 1000);
        due(12, "row", z.order(1) * 100 + z.order(2) * 10 + z.order(3), 201);
        due(12, "another what", z.order(4), NONE);
        due(12, "another what", z.order(-1), NONE);
        due(12, "no layers", new BentScreens().order(0), NONE);
        due(12, "none bears", Texts.withFilm("layer 99 1 1 hold;layer 99 1 1 hold;").order(0), 10000);
        due(12, "none bears: the least row", Texts.withFilm("layer 99 1 1 hold;layer 98 1 1 hold;").order(1), 0);
        BentScreens six = Texts.withFilm("layer 1 1 9 hold;layer 1 1 8 hold;layer 1 1 7 hold;layer 1 1 6 hold;"
                + "layer 1 1 5 hold;layer 1 1 4 hold;");
        due(12, "six", six.order(0), 375);
        due(12, "a film more, the same object", Texts.film(six, "layer 2 1 1 hold;"), 1);
        due(12, "found anew", six.order(0), 1000);
    }

    private static void tiring() {
        // STRETCH of the layer at ROUND r is 1000 / r.
        BentScreens x = Texts.withFilm("layer 2 1 99 hold;life 10 7;life 50 3;life 5 999;"
                + "folds 1 20;folds 1 21;folds 500 201;folds 3 100;folds 499 200;folds 9999 1;");
        int[] due = {0, 333, 476, 476, 904, 1404, 3334404};
        for (int n = 0; n < due.length; n++) {
            due(13, "behind " + n, x.tired(0, n), due[n]);
        }
        due(13, "more folds than there are", x.tired(0, 7), NONE);
        due(13, "below 0", x.tired(0, -1), NONE);
        due(13, "no layer", x.tired(1, 0), NONE);
        due(14, "in the fifth", x.cracks(0), 4);
        due(14, "no layer", x.cracks(1), NONE);
        due(14, "no layer", x.cracks(-1), NONE);
        due(13, "no lives", Texts.withFilm("layer 2 1 9 hold;folds 9 9;").tired(0, 1), 0);
        due(14, "no lives", Texts.withFilm("layer 2 1 9 hold;folds 9 9;").cracks(0), NONE);
        // 1/3 + 2/3 is 1, and just below it is none.
        BentScreens thirds = Texts.withFilm("layer 2 1 9 hold;life 0 999;life 50 3;folds 1 20;folds 665 999;folds 1 999;");
        due(13, "just below 1", thirds.tired(0, 2), 998);
        due(13, "just 1", thirds.tired(0, 3), 1000);
        due(14, "just 1", thirds.cracks(0), 2);
        // Four lives whose common denominator is far beyond 32 bits.
        BentScreens many = Texts.withFilm("layer 2 1 9 hold;life 0 997;life 10 991;life 20 983;life 40 977;"
                + "folds 9999 9999;folds 9998 100;folds 9997 50;folds 9996 25;folds 9995 9999;folds 9994 100;");
        due(13, "great sums", many.tired(0, 6), 60628);
    }

    private static void daysAndViews() {
        BentScreens x = Texts.withFilm("net 2 2;");
        due(15, "the same day", x.day(0), true);
        due(15, "below 0", x.day(-1), false);
        x.crack(false, 0, 0);
        due(15, "on", x.day(5), true);
        due(15, "back", x.day(4), false);
        due(15, "it stays", x.count(11), 5);
        x.crack(true, 0, 0);
        due(16, "later than now", x.view(6), false);
        due(16, "none", x.view(-2), false);
        due(16, "it stays NOW", x.count(12), NONE);
        due(16, "a day between", x.view(4), true);
        due(16, "as told", x.count(12), 4);
        due(16, "one crack by then", x.count(18), 1);
        due(16, "the day itself", x.view(5), true);
        due(16, "both cracks", x.count(18), 2);
        due(15, "the last day", x.day(999), true);
        due(15, "above 999", x.day(1000), false);
        due(16, "it does not go on by itself", x.count(12), 5);
        x.crack(false, 1, 0);
        due(16, "told later", x.leads(false, 1, 0), true);
        due(17, "it has one though", x.crack(false, 1, 0), false);
        due(16, "NOW again", x.view(NONE), true);
        due(16, "all of them", x.count(18), 3);
        due(18, "NOW again", x.leads(false, 1, 0), false);
        due(16, "the first day", x.view(0), true);
        due(18, "not yet", x.leads(true, 0, 0), true);
        due(18, "already", x.leads(false, 0, 0), false);
    }

    private static void cracksInTheNet() {
        BentScreens x = Texts.withFilm("net 3 2;");
        due(17, "a line", x.crack(false, 2, 0), true);
        due(17, "again", x.crack(false, 2, 0), false);
        due(17, "the rail of the same point is none", x.crack(true, 2, 0), false);
        due(17, "a line behind the last column", x.crack(false, 0, 1), false);
        due(17, "a rail in the last column", x.crack(true, 1, 1), true);
        due(17, "no row", x.crack(false, 3, 0), false);
        due(17, "no row", x.crack(true, -1, 0), false);
        due(17, "no column", x.crack(true, 0, 2), false);
        due(17, "no column", x.crack(false, 0, -1), false);
        due(17, "far off", x.crack(true, MAX, MAX), false);
        due(18, "cracked", x.leads(false, 2, 0), false);
        due(18, "it leads", x.leads(false, 1, 0), true);
        due(18, "a rail leads", x.leads(true, 1, 0), true);
        due(18, "none", x.leads(true, 2, 0), false);
        due(18, "none", x.leads(false, 0, MIN), false);
        BentScreens full = Texts.withFilm("net 6 6;");
        int told = 0;
        for (int k = 0; k < 60; k++) {
            told += full.crack(k >= 30, k < 30 ? k / 5 : (k - 30) / 6, k < 30 ? k % 5 : (k - 30) % 6) ? 1 : 0;
        }
        due(17, "forty", told, 40);
        due(17, "forty", full.count(9), 40);
        due(34, "more than ten", full.mend(0), NONE);
    }

    private static void waysAndCut() {
        BentScreens x = Texts.withFilm("net 3 3;");
        due(19, "whole", x.most(), 3);
        due(21, "whole", x.cut(0), 3);
        due(21, "whole: first lines", x.cut(3), 3);
        due(22, "whole: a first line", x.inCut(2, 1, 99), true);
        due(22, "whole: a last line", x.inCut(3, 1, 0), false);
        x.crack(false, 0, 0);
        x.crack(false, 1, 1);
        due(19, "led around", x.most(), 2);
        due(20, "row 0", x.fed(0), true);
        due(20, "row 1", x.fed(1), true);
        due(20, "row 2", x.fed(2), false);
        due(20, "none", x.fed(3), false);
        due(20, "none", x.fed(-1), false);
        due(20, "none behind six", Texts.withFilm("net 6 6;").fed(6), false);
        due(20, "the sixth", Texts.withFilm("net 6 6;").fed(5), true);
        due(21, "how many", x.cut(0), 2);
        due(21, "lines", x.cut(1), 2);
        due(21, "rails", x.cut(2), 0);
        due(21, "first lines", x.cut(3), 0);
        due(21, "last lines", x.cut(4), 0);
        due(21, "another what", x.cut(5), NONE);
        due(21, "another what", x.cut(-1), NONE);
        due(22, "nearest to the beginning", x.inCut(0, 1, 0), true);
        due(22, "nearest to the beginning", x.inCut(0, 2, 0), true);
        due(22, "a cracked one is none", x.inCut(0, 0, 0), false);
        due(22, "not the further one", x.inCut(0, 2, 1), false);
        due(22, "no line", x.inCut(0, 2, 2), false);
        due(22, "another sort", x.inCut(4, 0, 0), false);
        due(22, "another sort", x.inCut(-1, 0, 0), false);
        due(22, "no row", x.inCut(2, 3, 0), false);
        due(22, "no row", x.inCut(3, -1, 0), false);
        due(22, "far off", x.inCut(1, MAX, MIN), false);
        // Row 1 ends at once, and row 0 has no rail to it.
        BentScreens y = Texts.withFilm("net 2 3;");
        y.crack(false, 1, 0);
        y.crack(true, 0, 0);
        y.crack(true, 0, 1);
        due(19, "one", y.most(), 1);
        due(20, "by numbers", y.fed(0), true);
        due(20, "by numbers", y.fed(1), false);
        due(21, "nearest to the beginning", y.cut(3), 1);
        due(22, "the first line of row 0", y.inCut(2, 0, 0), true);
        due(22, "not that of row 1", y.inCut(2, 1, 0), false);
        due(22, "not the line of row 0", y.inCut(0, 0, 0), false);
        BentScreens rail = Texts.withFilm("net 3 1;");
        due(21, "one column", rail.cut(3), 3);
        BentScreens down = Texts.withFilm("net 2 2;");
        down.crack(false, 0, 0);
        down.crack(true, 0, 0);
        due(22, "line of row 1", down.inCut(0, 1, 0), false);
        due(22, "or nearer: its first line", down.inCut(2, 1, 0), true);
        due(22, "row 0 ends at once", down.inCut(2, 0, 0), false);
        railInTheCut();
    }

    /** Two rows of lines end in a corner from which one rail leads on. */
    private static void railInTheCut() {
        BentScreens x = Texts.withFilm("net 3 3;");
        x.crack(false, 0, 1);
        x.crack(false, 1, 0);
        x.crack(true, 0, 0);
        x.crack(true, 1, 0);
        x.crack(false, 2, 0);
        due(19, "by a rail", x.most(), 1);
        due(22, "nearest to the beginning", x.inCut(2, 0, 0), true);
        due(22, "not the line before the rail", x.inCut(0, 0, 0), false);
        BentScreens y = Texts.withFilm("net 4 2;");
        y.crack(false, 0, 0);
        y.crack(false, 1, 0);
        y.crack(false, 2, 0);
        y.crack(true, 0, 0);
        // Rows 1, 2, 3 may go down to row 3, whose line is the only one; rows 2, 1 are led up again.
        due(19, "one line", y.most(), 1);
        due(21, "one line", y.cut(1), 1);
        y = Texts.withFilm("net 4 2;");
        y.crack(false, 1, 0);
        y.crack(false, 2, 0);
        y.crack(false, 3, 0);
        due(19, "one line", y.most(), 1);
        due(20, "the first row", y.fed(0), true);
        BentScreens z = Texts.withFilm("net 2 3;");
        z.crack(false, 0, 1);
        z.crack(false, 1, 0);
        z.crack(true, 0, 0);
        z.crack(true, 0, 2);
        // The way: line 0 0, rail down in column 1, line 1 1.
        due(19, "down by the rail", z.most(), 1);
        due(20, "row 0 ends", z.fed(0), false);
        due(20, "row 1 is fed by the first line of row 0", z.fed(1), true);
        // Rows 0, 1 come to column 1 both, and the rail to row 2 is all that leads on from there.
        BentScreens r = Texts.withFilm("net 3 3;");
        r.crack(false, 2, 0);
        r.crack(false, 0, 1);
        r.crack(false, 1, 1);
        due(19, "one rail", r.most(), 1);
        due(21, "rails", r.cut(2), 1);
        due(22, "that rail", r.inCut(1, 1, 1), true);
        due(22, "not the line behind it", r.inCut(0, 2, 1), false);
        due(22, "not a rail beside", r.inCut(1, 1, 0), false);
    }

    /** LINES are gone from a POINT to the next one alone; RAILS either way. */
    private static void waysGoOnward() {
        BentScreens x = Texts.withFilm("net 3 3;");
        x.crack(false, 1, 0);
        x.crack(false, 2, 0);
        x.crack(false, 0, 1);
        x.crack(false, 1, 1);
        x.crack(true, 1, 1);
        // Nothing leads to column 1 of row 2.
        due(19, "no way back", x.most(), 0);
        due(21, "nothing to cut", x.cut(0), 0);
        due(20, "no row", x.fed(0), false);
        BentScreens back = Texts.withFilm("net 3 4;");
        int[][] cracks = {{0, 0, 2}, {0, 1, 0}, {0, 1, 2}, {0, 2, 0}, {1, 0, 0}, {1, 0, 1}, {1, 0, 3}, {1, 1, 0},
            {1, 1, 2}, {1, 1, 3}};
        for (int[] c : cracks) {
            back.crack(c[0] == 1, c[1], c[2]);
        }
        // Along row 0, down in column 2, back along row 1, down in column 1: a line would be gone the wrong way.
        due(19, "no way back", back.most(), 0);
        due(22, "a line the wrong way is not cut", back.inCut(0, 1, 1), false);
        BentScreens up = Texts.withFilm("net 2 2;");
        up.crack(false, 0, 0);
        due(20, "up by a rail", up.fed(0), true);
    }

    private static void pictures() {
        BentScreens x = Texts.withFilm("net 2 3;");
        due(24, "new", x.left(1, 2), 1000);
        due(23, "first", x.picture(0, 1, 1, 2, 3, 5), 1);
        due(23, "second", x.picture(1, 1, 2, 2, 9, 999), 2);
        due(24, "beside", x.left(0, 0), 1000);
        due(24, "AGE 15", x.left(0, 1), 999);
        due(24, "AGE 9006", x.left(1, 2), 100);
        due(25, "unlike", x.unlike(), 900);
        due(23, "again", x.picture(1, 1, 2, 2, 9, 110), 3);
        due(24, "AGE 9996", x.left(1, 2), 1);
        due(28, "not dark yet", x.dark(1, 2), false);
        due(23, "again", x.picture(1, 1, 2, 2, 1, 4), 4);
        due(24, "AGE 10000", x.left(1, 2), 0);
        due(28, "dark by age", x.dark(1, 2), true);
        due(23, "again", x.picture(1, 1, 2, 2, 9, 999), 5);
        due(24, "0 at least", x.left(1, 2), 0);
        due(25, "unlike", x.unlike(), 1000);
        due(24, "none", x.left(2, 0), NONE);
        due(24, "none", x.left(0, 3), NONE);
        due(24, "none", x.left(-1, 0), NONE);
        int[][] wrongOnes = {{-1, 0, 0, 0, 1, 1}, {0, 2, 0, 0, 1, 1}, {1, 0, 0, 0, 1, 1}, {0, 0, -1, 0, 1, 1},
            {0, 0, 0, 3, 1, 1}, {0, 0, 2, 1, 1, 1}, {0, 0, 0, 0, 0, 1}, {0, 0, 0, 0, 10, 1}, {0, 0, 0, 0, 1, 0},
            {0, 0, 0, 0, 1, 1000}, {MIN, MAX, MIN, MAX, 1, 1}};
        for (int[] p : wrongOnes) {
            due(23, "wrong", x.picture(p[0], p[1], p[2], p[3], p[4], p[5]), NONE);
        }
        for (int k = 6; k <= 12; k++) {
            due(23, "up to 12", x.picture(0, 0, 0, 0, 9, 1), k);
        }
        due(23, "a 13th", x.picture(0, 0, 0, 0, 1, 1), NONE);
        due(23, "there are 12", x.count(10), 12);
    }

    private static void dampAndDark() {
        BentScreens x = Texts.withFilm("net 3 3;");
        due(26, "0 days", x.wet(0), true);
        due(26, "below 0", x.wet(-1), false);
        due(26, "above 200", x.wet(201), false);
        due(27, "dry", x.damp(1, 1), 0);
        due(26, "a day", x.wet(1), true);
        due(27, "a corner", x.damp(0, 0), 25);
        due(27, "a rim", x.damp(0, 1), 12);
        due(27, "the middle", x.damp(1, 1), 0);
        due(26, "two days", x.wet(2), true);
        // corner (100 + 12 + 12 + 200) / 8, rim (48 + 25 + 25 + 0 + 100) / 8, middle (0 + 4 * 12) / 8
        due(27, "a corner", x.damp(2, 2), 40);
        due(27, "a rim", x.damp(1, 0), 24);
        due(27, "the middle", x.damp(1, 1), 6);
        due(27, "none", x.damp(3, 0), NONE);
        due(27, "none", x.damp(0, -1), NONE);
        due(29, "none is dark", x.darks(), 0);
        x.wet(3);
        // corner (160 + 48 + 200) / 8
        due(27, "a corner", x.damp(2, 0), 51);
        due(28, "a corner is dark", x.dark(2, 0), true);
        due(28, "a rim is not", x.dark(2, 1), false);
        due(29, "corners", x.darks(), 4);
        x.wet(200);
        due(27, "it is cut", x.damp(1, 1), 94);
        due(29, "all", x.darks(), 9);
        due(28, "none such", x.dark(3, 0), false);
        due(28, "none such", x.dark(0, MAX), false);
        x.wet(0);
        due(29, "dry again", x.darks(), 0);
        x.crack(false, 1, 0);
        x.crack(false, 1, 1);
        x.crack(true, 0, 1);
        due(28, "a row that is not fed", x.dark(2, 0), true);
        due(29, "a row that is not fed", x.darks(), 3);
        due(26, "days of a new object", Texts.withFilm("net 1 1;").count(13), 0);
        BentScreens one = new BentScreens();
        one.wet(1);
        due(28, "50 is damp", one.dark(0, 0), true);
        due(27, "50", one.damp(0, 0), 50);
    }

    private static void sheetWorth() {
        BentScreens x = Texts.withFilm("sheet 4 3;panel 2 2 10;panel 1 3 4;panel 3 1 5;flaw 1 1;");
        due(30, "all", x.value(0, 0, 4, 3), 19);
        due(30, "with the flaw", x.value(0, 0, 2, 2), 0);
        due(30, "not turned", x.value(3, 0, 1, 3), 4);
        due(30, "not turned", x.value(0, 0, 1, 1), 0);
        due(30, "across", x.value(1, 2, 3, 1), 5);
        due(30, "too wide", x.value(1, 0, 4, 1), NONE);
        due(30, "too high", x.value(0, 1, 1, 3), NONE);
        due(30, "no width", x.value(0, 0, 0, 1), NONE);
        due(30, "no height", x.value(0, 0, 1, 0), NONE);
        due(30, "beside", x.value(-1, 0, 1, 1), NONE);
        due(30, "beside", x.value(0, -1, 1, 1), NONE);
        due(30, "far off", x.value(MAX, 0, MAX, 1), NONE);
        due(30, "far off", x.value(0, MAX, 1, MAX), NONE);
        due(30, "wide", x.value(1, 0, MAX, 1), NONE);
        BentScreens full = Texts.withFilm("sheet 10 10;panel 1 1 999;");
        due(30, "a hundred", full.value(0, 0, 10, 10), 99900);
        due(31, "a hundred", full.panels(), 100);
        due(32, "the last", full.panel(99, 1) * 100 + full.panel(99, 2), 909);
        due(32, "by columns", full.panel(1, 1) * 100 + full.panel(1, 2), 1);
        // Five of these lie round about one square, which no cut from edge to edge can do.
        BentScreens pinwheel = Texts.withFilm("sheet 3 3;panel 2 1 5;panel 1 2 5;flaw 1 1;");
        due(30, "edge to edge alone", pinwheel.value(0, 0, 3, 3), 15);
    }

    private static void sheetPlan() {
        BentScreens x = new BentScreens();
        due(31, "none", x.panels(), 0);
        due(32, "none", x.panel(0, 0), NONE);
        x = Texts.withFilm("sheet 4 3;panel 2 2 10;panel 1 3 4;flaw 1 1;");
        due(31, "two", x.panels(), 2);
        int[][] due = {{1, 0, 0}, {0, 2, 1}};
        // The upright cut at 1 comes first: 4, then 10 of what is right of it.
        for (int k = 0; k < 2; k++) {
            for (int what = 0; what < 3; what++) {
                due(32, k + " " + what, x.panel(k, what), due[k][what]);
            }
        }
        due(32, "none", x.panel(2, 0), NONE);
        due(32, "none", x.panel(-1, 0), NONE);
        due(32, "another what", x.panel(0, 3), NONE);
        due(32, "another what", x.panel(0, -1), NONE);
        BentScreens whole = Texts.withFilm("sheet 2 1;panel 1 1 3;panel 2 1 6;panel 2 1 6;");
        due(31, "a panel before a cut", whole.panels(), 1);
        due(32, "the least kind", whole.panel(0, 0), 1);
        BentScreens dear = Texts.withFilm("sheet 2 1;panel 2 1 3;panel 2 1 6;");
        due(32, "the kind that is worth it", dear.panel(0, 0), 1);
        BentScreens square = Texts.withFilm("sheet 2 2;panel 1 1 1;panel 2 2 3;");
        due(31, "upright first", square.panels(), 4);
        due(32, "the left piece, upper first", square.panel(1, 1) * 10 + square.panel(1, 2), 1);
        BentScreens across = Texts.withFilm("sheet 2 2;panel 2 1 1;");
        due(31, "across", across.panels(), 2);
        due(32, "the upper first", across.panel(0, 2) * 10 + across.panel(1, 2), 1);
        BentScreens spoiled = Texts.withFilm("sheet 2 2;panel 2 2 3;panel 1 1 1;flaw 0 0;");
        due(31, "the flaw's square is waste", spoiled.panels(), 3);
        due(32, "the first is below it", spoiled.panel(0, 1) * 10 + spoiled.panel(0, 2), 1);
    }

    private static void mending() {
        BentScreens x = Texts.withFilm("net 2 3;");
        due(34, "nothing to mend", x.mend(2), 0);
        x.crack(false, 0, 0);
        x.crack(true, 0, 0);
        x.crack(false, 0, 1);
        due(34, "cost", x.mend(0), 2);
        due(34, "how many", x.mend(1), 2);
        due(34, "set", x.mend(2), 5);
        due(33, "dearest", x.cost(0, 99), true);
        due(33, "cheapest", x.cost(2, 1), true);
        due(34, "cost", x.mend(0), 100);
        due(33, "none", x.cost(3, 5), false);
        due(33, "none", x.cost(-1, 5), false);
        due(33, "0", x.cost(0, 0), false);
        due(33, "100", x.cost(0, 100), false);
        due(34, "it stays", x.mend(0), 100);
        due(34, "another what", x.mend(3), NONE);
        due(34, "another what", x.mend(-1), NONE);
        BentScreens early = Texts.withFilm("net 1 3;");
        early.crack(false, 0, 1);
        early.day(2);
        early.crack(false, 0, 0);
        due(34, "both", early.mend(2), 3);
        early.view(1);
        due(34, "by the view", early.mend(2), 1);
        due(33, "one beyond the view", early.cost(1, 9), true);
        early.view(NONE);
        due(34, "now", early.mend(0), 10);
        // Three rows need three lines in each gap; rails lead anywhere else.
        BentScreens y = Texts.withFilm("net 3 2;");
        y.crack(false, 0, 0);
        y.crack(false, 1, 0);
        y.crack(true, 0, 0);
        due(34, "lines alone", y.mend(2), 3);
        // All lines, and no rail, whatever they cost.
        BentScreens z = Texts.withFilm("net 6 6;");
        for (int row = 0; row < 5; row++) {
            z.crack(false, row, row);
        }
        for (int row = 0; row < 5; row++) {
            z.crack(true, row, 5 - row);
        }
        due(34, "ten can be told", z.mend(0), 5);
        due(34, "the lines", z.mend(2), 31);
        z.crack(true, 0, 0);
        due(34, "eleven can't", z.mend(0), NONE);
        due(34, "eleven can't", z.mend(2), NONE);
    }

    private static void hands() {
        BentScreens x = Texts.withFilm("layer 2 1 10 hold;life 5 800;");
        due(35, "first", x.hand(3, 1, 100), 0);
        due(35, "no films", x.hand(0, 1, 1), NONE);
        due(35, "1000 films", x.hand(1000, 1, 1), NONE);
        due(35, "no folds", x.hand(1, 0, 1), NONE);
        due(35, "1000 folds", x.hand(1, 1000, 1), NONE);
        due(35, "round 0", x.hand(1, 1, 0), NONE);
        due(35, "round 10000", x.hand(1, 1, 10000), NONE);
        due(35, "second", x.hand(1, 2, 200), 1);
        due(36, "730 of 800", x.broken(0, 2), false);
        due(36, "1095 of 800", x.broken(0, 3), true);
        due(36, "years below 0", x.broken(0, -1), false);
        due(36, "30 years", x.broken(0, 30), true);
        due(36, "31 years", x.broken(0, 31), false);
        due(36, "no hand", x.broken(2, 30), false);
        due(36, "no hand", x.broken(-1, 30), false);
        due(37, "none", x.share(1), 0);
        due(37, "one of four", x.share(2), 250);
        due(37, "all", x.share(3), 1000);
        due(37, "31 years", x.share(31), NONE);
        due(37, "below 0", x.share(-1), NONE);
        due(38, "none", x.promise(0), 1);
        due(38, "just below", x.promise(249), 1);
        due(38, "a quarter", x.promise(250), 2);
        due(38, "all", x.promise(1000), 30);
        due(38, "below 0", x.promise(-1), NONE);
        due(38, "above 1000", x.promise(1001), NONE);
        due(35, "third", x.hand(2, 999, 9999), 2);
        due(36, "stretch 0.1 has no life", x.broken(2, 30), false);
        due(37, "four of six, cut", x.share(30), 666);
        due(35, "fourth", x.hand(999, 999, 1), 3);
        due(35, "fifth", x.hand(1, 1, 1), NONE);
        due(36, "behind 0 years", x.broken(3, 0), false);
        due(37, "999 of 1005, cut", x.share(1), 994);
        // FOLDS count besides, and each HAND by itself.
        BentScreens y = Texts.withFilm("layer 2 1 10 hold;life 0 366;folds 1 500;");
        y.hand(1, 1, 700);
        due(36, "1 + 365 is just enough", y.broken(0, 1), true);
        due(36, "1 is not", y.broken(0, 0), false);
        BentScreens z = Texts.withFilm("layer 2 1 10 hold;life 0 365;folds 400 500;");
        z.hand(1, 1, 700);
        due(36, "broken at once", z.broken(0, 0), true);
        due(38, "broken at once", z.promise(999), NONE);
        due(38, "all may be", z.promise(1000), 30);
        due(37, "no hands", new BentScreens().share(30), 0);
        due(38, "no hands", new BentScreens().promise(0), 30);
        BentScreens some = Texts.withFilm("layer 1 1 1 slide;layer 4 1 1 hold;life 9 9;");
        some.hand(5, 1, 200);
        BentScreens late = Texts.withFilm("layer 2 1 10 hold;life 0 999;folds 9 9;");
        late.hand(1, 1, 1);
        due(38, "behind 2 years", late.promise(0), 2);
        BentScreens last = Texts.withFilm("layer 2 1 10 hold;life 0 999;life 99 1;folds 1 700;");
        for (int k = 0; k < 3; k++) {
            last.hand(1, 1 + k, 9999);
        }
        due(38, "one by one", last.promise(0) * 10000 + last.promise(334) * 100 + last.promise(667), 102);
        due(36, "some layer is enough", some.broken(0, 1), true);
    }

    private static void rounds() {
        BentScreens x = Texts.withFilm("net 2 3;");
        due(39, "no picture", x.lasts(0), NONE);
        due(40, "no picture", x.shift(), NONE);
        x.picture(0, 0, 0, 0, 1, 1);
        due(39, "1000 at most", x.lasts(0), 1000);
        due(40, "the least of several", x.shift(), 0);
        x.picture(1, 1, 1, 1, 9, 999);
        due(39, "8991 once", x.lasts(0), 1);
        due(39, "8991 once in three", x.lasts(1), 3);
        due(39, "the other way round", x.lasts(2), 3);
        due(39, "as without", x.lasts(3), 1);
        due(39, "as 1", x.lasts(4), 3);
        due(40, "best", x.shift(), 1);
        x.picture(1, 1, 1, 1, 9, 112);
        due(39, "9999 is below", x.lasts(0), 1);
        x.picture(1, 1, 1, 1, 1, 1);
        due(39, "10000 is not", x.lasts(0), 0);
        due(39, "10000 is not", x.lasts(1), 0);
        due(39, "none such", x.lasts(6), NONE);
        due(39, "none such", x.lasts(-1), NONE);
        // Each lamp of the row gets 5000 in one round of three and 4000 in another.
        BentScreens y = Texts.withFilm("net 1 3;");
        y.picture(0, 0, 0, 0, 5, 800);
        y.picture(0, 0, 1, 1, 5, 999);
        due(39, "no shift", y.lasts(0), 2);
        due(39, "by one", y.lasts(1), 3);
        due(39, "by two", y.lasts(2), 3);
        BentScreens even = Texts.withFilm("net 1 4;");
        even.picture(0, 0, 0, 1, 2, 999);
        due(39, "by two", even.lasts(2), 10);
        due(39, "by one", even.lasts(1), 9);
        due(40, "best", even.shift(), 2);
        BentScreens narrow = new BentScreens();
        narrow.picture(0, 0, 0, 0, 1, 999);
        narrow.picture(0, 0, 0, 0, 1, 112);
        due(39, "one column: 9 * 1111 is 9999", narrow.lasts(4), 9);
        due(25, "one lamp", narrow.unlike(), 0);
        narrow.picture(0, 0, 0, 0, 9, 999);
        due(25, "all at 0", narrow.unlike(), 0);
        due(24, "all at 0", narrow.left(0, 0), 0);
    }

    private static void tests() {
        BentScreens x = new BentScreens();
        due(42, "all", x.kept(), 240);
        due(43, "first", x.law(0), 1);
        due(43, "by b, then a", x.law(61), 102);
        due(43, "last", x.law(239), 360);
        due(43, "none", x.law(240), NONE);
        due(43, "none", x.law(-1), NONE);
        due(44, "least", x.span(1, false), 8);
        due(44, "greatest", x.span(1, true), 524880);
        due(44, "at 9", x.span(9, true), 720);
        due(44, "speed 0", x.span(0, true), NONE);
        due(44, "speed 10", x.span(10, false), NONE);
        due(41, "speed 0", x.test(0, 1, 1, 1), NONE);
        due(41, "speed 10", x.test(10, 1, 1, 1), NONE);
        due(41, "no folds", x.test(1, 0, 1, 1), NONE);
        due(41, "too many folds", x.test(1, 1000000, 1, 1), NONE);
        due(41, "no films", x.test(1, 1, 0, 0), NONE);
        due(41, "100 films", x.test(1, 1, 100, 1), NONE);
        due(41, "cracked below 0", x.test(1, 1, 1, -1), NONE);
        due(41, "more cracked than there are", x.test(1, 1, 1, 2), NONE);
        due(41, "none of these counts", x.count(16), 0);
        // At speed 9 a law of a is 8a .. 12a, whatever b.
        due(41, "some cracked at 96", x.test(9, 96, 5, 2), 0);
        due(42, "8a <= 96 < 12a: 9 .. 12, by four b", x.kept(), 16);
        due(43, "just the least: a 12", x.law(3), 12);
        due(43, "just the greatest is too late: not a 8", x.law(0), 9);
        due(41, "none cracked at 108", x.test(9, 108, 5, 0), 1);
        due(42, "10 .. 12", x.kept(), 12);
        due(41, "all cracked at 88", x.test(9, 88, 5, 5), 2);
        due(42, "10, 11", x.kept(), 8);
        due(41, "all cracked at 100 of speed 8", x.test(8, 100, 99, 99), 3);
        due(42, "b is 0", x.kept(), 2);
        due(44, "least", x.span(3, false), 80);
        due(44, "greatest", x.span(3, true), 132);
        for (int k = 4; k < 12; k++) {
            due(41, "up to 12", x.test(9, 999999, 99, 99), k);
        }
        due(41, "a 13th", x.test(9, 999999, 99, 99), NONE);
        due(42, "it stays", x.kept(), 2);
    }

    private static void quarrels() {
        BentScreens x = new BentScreens();
        due(45, "all are kept", x.quarrel(0), NONE);
        x.test(9, 200, 1, 0);
        x.test(9, 500, 1, 1);
        x.test(9, 120, 1, 1);
        x.test(9, 999, 1, 1);
        x.test(9, 300, 1, 0);
        x.test(9, 100, 1, 1);
        due(42, "none", x.kept(), 0);
        // Not cracked at 200: a from 17 on, at 300: from 26 on; cracked at 120: a up to 15, at 100: up to 12.
        due(45, "the least row", x.quarrel(0), 0);
        due(45, "the least row", x.quarrel(1), 2);
        due(45, "no more", x.quarrel(2), NONE);
        due(45, "below 0", x.quarrel(-1), NONE);
        due(43, "no law", x.law(0), NONE);
        due(44, "no span", x.span(5, true), NONE);
        x.test(5, 999999, 2, 1);
        due(45, "one alone bars all", x.quarrel(0), 6);
        due(45, "one alone bars all", x.quarrel(1), NONE);
        BentScreens twelve = new BentScreens();
        for (int k = 0; k < 10; k++) {
            twelve.test(1, 1, 1, 0);
        }
        twelve.test(9, 200, 1, 0);
        twelve.test(9, 120, 1, 1);
        due(45, "the last two of twelve", twelve.quarrel(0) * 100 + twelve.quarrel(1), 1011);
        due(45, "no more", twelve.quarrel(2), NONE);
        BentScreens first = new BentScreens();
        first.test(1, 9, 1, 1);
        due(42, "the first law alone", first.kept(), 1);
        due(43, "the first law alone", first.law(0), 1);
        due(44, "the first law alone", first.span(1, true), 12);
        due(45, "the first law alone", first.quarrel(0), NONE);
        due(41, "it is barred, too", first.test(1, 12, 1, 0), 1);
        due(45, "both are needed", first.quarrel(1), 1);
        BentScreens three = new BentScreens();
        // a from 17 on; b is 0 by a crack at speed 1; but at speed 1 none cracked at 800.
        three.test(9, 200, 1, 0);
        three.test(1, 1000, 1, 1);
        three.test(9, 600, 1, 1);
        three.test(1, 900, 1, 0);
        due(42, "none", three.kept(), 0);
        due(45, "first", three.quarrel(0), 0);
        due(45, "second", three.quarrel(1), 1);
        due(45, "third", three.quarrel(2), 3);
        due(45, "no more", three.quarrel(3), NONE);
    }

    /** How many LAWS one film keeps that was folded so often. */
    private static int keptBehind(int speed, int folds, int cracked) {
        BentScreens x = new BentScreens();
        x.test(speed, folds, 1, cracked);
        return x.kept();
    }

    private static int greaterBehind(int speed, int folds) {
        return Math.max(keptBehind(speed, folds, 1), keptBehind(speed, folds, 0));
    }

    private static void nextTest() {
        BentScreens x = new BentScreens();
        int speed = x.next(0);
        int folds = x.next(1);
        int number = x.next(2);
        due(46, "the greater of both", number, greaterBehind(speed, folds));
        int least = 1000;
        int first = 0;
        for (int v = 9; v >= 1; v--) {
            for (int j = 14; j >= 0; j--) {
                int greater = greaterBehind(v, 10 << j);
                if (greater <= least) {
                    least = greater;
                    first = v * 1000000 + (10 << j);
                }
            }
        }
        due(46, "least", number, least);
        due(46, "the least speed, then the least folds", speed * 1000000 + folds, first);
        due(46, "another what", x.next(3), NONE);
        due(46, "another what", x.next(-1), NONE);
        x.test(5, 1, 1, 1);
        due(46, "without laws", x.next(0), 1);
        due(46, "without laws", x.next(1), 10);
        due(46, "without laws", x.next(2), 0);
    }

    private static void rulesTexts() {
        fine(47, false, "", 0);
        fine(47, false, "bar;", 1);
        fine(47, false, "if not slides and whole and layers<1 and least>2:bar;if rows=3 and fed=0 and darks<9:price 9999;"
                + "if worth>0 and cracks=0 and kept=0 and not day=0:less 0;", 3);
        fine(47, false, "bar;".repeat(16), 16);
        fine(47, false, " if\nwhole :\nprice5 ;", 1);
        faulty(47, false, "price", 1, 5);
        faulty(47, false, "price;", 1, 5);
        faulty(47, false, "bar 5;", 1, 4);
        faulty(47, false, "bars;", 1, 0);
        faulty(47, false, "if :bar;", 1, 3);
        faulty(47, false, "if bar;", 1, 3);
        faulty(47, false, "if rows<:bar;", 1, 8);
        faulty(47, false, "if rows 3:bar;", 1, 8);
        faulty(47, false, "if whole and rows bar;", 1, 18);
        faulty(47, false, "price bar;", 1, 6);
        faulty(47, false, "bar bar;", 1, 4);
        faulty(47, false, "if whole bar;", 1, 9);
        faulty(47, false, "if whole=1:bar;", 1, 8);
        faulty(47, false, "if not not whole:bar;", 1, 7);
        faulty(47, false, "if whole and:bar;", 1, 12);
        faulty(47, false, "if rows:bar;", 1, 7);
        faulty(47, false, "if rows<=3:bar;", 1, 8);
        faulty(47, false, "if rows<12345:bar;", 1, 8);
        faulty(47, false, "if whole:if whole:bar;", 1, 9);
        faulty(47, false, "if whole:", 1, 9);
        faulty(47, false, "less 5;whole", 1, 7);
        faulty(47, false, "bar;\u0080", 1, 4);
        faulty(47, false, "net 1 1;", 1, 0);
        faulty(47, false, "if whole and whole and whole and whole and not whole:bar;", 3, 43);
        faulty(47, false, "bar;".repeat(16) + " if whole:bar;", 3, 65);
        faulty(47, false, "bar;".repeat(17) + "if whole and whole and whole and whole and whole:bar;", 3, 64);
        faulty(47, false, "if whole and whole and whole and whole and day=1:bar;" + "bar;".repeat(17), 3, 43);
        faulty(47, false, "bar;".repeat(17) + "ba", 1, 68);
        BentScreens x = new BentScreens();
        Texts.rules(x, "price 5;");
        due(47, "a fault", Texts.rules(x, "price 6;price"), NONE);
        due(47, "the tape is empty", x.end(1), NONE);
        due(47, "the elder ones stay", x.price(), 5);
        due(47, "others", Texts.rules(x, "price 6;price 7;"), 2);
        due(47, "the elder ones are gone", x.price(), 13);
        due(47, "none", Texts.rules(x, ""), 0);
        due(47, "none", x.price(), 0);
    }

    private static boolean holds(BentScreens x, String test) {
        if (Texts.rules(x, "if " + test + ":price 1;") != 1) {
            throw new IllegalStateException(test);
        }
        return x.price() == 1;
    }

    private static void rulesJudge() {
        BentScreens x = Texts.withFilm(FILM);
        String[] due = {"slides", "whole", "layers=3", "least=300", "rows=2", "fed=2", "darks=0", "worth=14", "cracks=0",
            "kept=240", "day=0", "layers>2", "layers<4"};
        for (String test : due) {
            due(49, test, holds(x, test), true);
            due(49, "not " + test, holds(x, "not " + test), false);
        }
        due(49, "just", holds(x, "layers>3"), false);
        due(49, "just", holds(x, "layers<3"), false);
        x.crack(false, 0, 0);
        x.crack(false, 1, 0);
        x.test(9, 100, 1, 0);
        x.day(7);
        String[] then = {"not whole", "cracks=2", "fed=0", "darks=6", "kept=208", "day=7"};
        for (String test : then) {
            due(49, test, holds(x, test), true);
        }
        Texts.film(x, "layer 1 1 1 hold;layer 1 1 1 slide;");
        due(49, "the last one's glue does not count", holds(x, "slides"), false);
        Texts.film(x, "layer 1 1 1 slide;layer 1 1 1 hold;");
        due(49, "the first one's counts", holds(x, "slides"), true);
        Texts.film(x, "sheet 10 10;panel 1 1 999;");
        due(49, "9999 at most", holds(x, "worth=9999"), true);
        due(49, "no layers", holds(x, "least=0"), true);
        due(49, "all tests of a line", holds(x, "rows=1 and rows=2"), false);
        due(49, "all tests of a line", holds(x, "rows=1 and not rows=2"), true);
        Texts.rules(x, "if rows=2:bar;price 100;less 30;if rows=1:bar;if rows=2:price 5;bar;less 1;");
        due(48, "the first that holds", x.barred(), 3);
        due(49, "together", x.price(), 69);
        Texts.rules(x, "price 30;if rows=1:less 31;");
        due(48, "none", x.barred(), NONE);
        due(49, "0 at least", x.price(), 0);
        Texts.rules(x, "less 31;price 30;price 2;");
        due(49, "all together first", x.price(), 1);
        Texts.rules(x, "price 9999;".repeat(16));
        due(49, "sixteen", x.price(), 159984);
        BentScreens y = Texts.withFilm("net 2 2;");
        Texts.rules(y, "if cracks>0:bar;");
        y.day(1);
        y.crack(false, 0, 0);
        due(48, "now", y.barred(), 0);
        y.view(0);
        due(48, "by the view", y.barred(), NONE);
        due(48, "no rules", new BentScreens().barred(), NONE);
        due(49, "no rules", new BentScreens().price(), 0);
    }

    private static void counts() {
        BentScreens x = Texts.withFilm("layer 1 1 1 hold;layer 1 1 1 hold;life 1 1;life 2 1;life 3 1;folds 1 1;"
                + "panel 1 1 1;panel 1 1 1;panel 1 1 1;panel 1 1 1;flaw 0 0;flaw 0 0;flaw 1 1;flaw 2 2;flaw 3 3;net 5 6;"
                + "sheet 7 8;");
        x.day(4);
        x.crack(true, 0, 0);
        x.day(9);
        x.crack(true, 1, 0);
        x.crack(true, 2, 0);
        x.view(6);
        x.picture(0, 0, 0, 0, 1, 1);
        x.picture(0, 0, 0, 0, 1, 1);
        x.wet(77);
        x.hand(1, 1, 1);
        x.hand(1, 1, 1);
        x.hand(1, 1, 1);
        x.test(1, 1, 1, 1);
        Texts.rules(x, "bar;bar;bar;bar;");
        int[] due = {2, 3, 1, 4, 5, 5, 6, 7, 8, 3, 2, 9, 6, 77, 17, 3, 1, 4, 1};
        for (int what = 0; what < due.length; what++) {
            due(50, "count " + what, x.count(what), due[what]);
        }
        due(50, "another what", x.count(19), -2);
        due(50, "another what", x.count(-1), -2);
        due(50, "another what", x.count(MIN), -2);
    }

    private static void images() {
        BentScreens x = Texts.withFilm(FILM);
        due(51, "another k", x.image(3), false);
        due(51, "another k", x.image(-1), false);
        due(52, "none yet", x.again(0), false);
        x.day(3);
        x.crack(false, 0, 0);
        x.cost(0, 5);
        x.picture(0, 0, 0, 0, 9, 500);
        x.wet(9);
        x.hand(1, 1, 1);
        x.test(9, 100, 1, 0);
        Texts.rules(x, "price 5;price");
        Texts.rules(x, "price 5;");
        Texts.film(x, "net");
        Texts.put(x, "net 3 3;");
        due(51, "first", x.image(0), true);
        int[] all = new int[30];
        look(x, all, true);
        due(4, "the tape", x.film(), 1);
        x.day(8);
        x.view(2);
        x.wet(1);
        x.hand(1, 1, 1);
        x.test(9, 200, 1, 0);
        Texts.rules(x, "bar;bar;");
        due(51, "third", x.image(2), true);
        due(52, "first", x.again(0), true);
        look(x, all, false);
        due(52, "the fault, too", x.fault(1), 3);
        due(52, "the tape, too", x.film(), 1);
        due(52, "the tape, too", x.count(5), 3);
        due(52, "none such", x.again(1), false);
        due(52, "third", x.again(2), true);
        due(52, "third", x.count(11), 8);
        due(52, "third", x.count(15), 2);
        due(52, "third", x.kept(), 176);
        due(52, "first once more", x.again(0), true);
        look(x, all, false);
        x.day(50);
        due(51, "first anew", x.image(0), true);
        x.day(60);
        due(52, "first anew", x.again(0), true);
        due(52, "first anew", x.count(11), 50);
        due(52, "other images stay", x.again(2), true);
        due(52, "other images stay", x.count(11), 8);
        due(52, "another k", x.again(3), false);
        due(52, "another k", x.again(MIN), false);
    }

    /** Answers of all kinds, kept or held to those that were kept. */
    private static void look(BentScreens x, int[] all, boolean keep) {
        int[] now = {x.fault(0), x.fault(1), x.most(), x.cut(1), x.mend(0), x.left(0, 0), x.unlike(), x.damp(1, 1),
            x.darks(), x.value(0, 0, 4, 3), x.panels(), x.least(), x.order(0), x.share(1), x.lasts(0), x.kept(), x.price(),
            x.barred(), x.count(9), x.count(10), x.count(11), x.count(12), x.count(13), x.count(14), x.count(15),
            x.count(16), x.count(17), x.count(18), x.tired(0, 2), x.next(2)};
        for (int k = 0; k < now.length; k++) {
            if (keep) {
                all[k] = now[k];
            }
            due(52, "look " + k, now[k], all[k]);
        }
    }
}
