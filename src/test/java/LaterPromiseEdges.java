/** Each sentence of the document's Promises 30 to 52 that names a boundary case. */
final class LaterPromiseEdges extends Edges {
    private static final int[] OTHERS = {-1, -2, 1000000, MAX, MIN};

    LaterPromiseEdges(Ledger ledger) {
        super(ledger);
    }

    @Override
    void run() {
        value();
        panels();
        panel();
        cost();
        mend();
        hand();
        broken();
        share();
        promise();
        lasts();
        shift();
        test();
        kept();
        law();
        span();
        quarrel();
        next();
        rules();
        barred();
        price();
        count();
        image();
        again();
    }

    private void value() {
        section("Promise 30");
        says("WORTH of a piece of the SHEET (its left upper square, how wide, how high).");
        BentScreens x = film("sheet 4 3;panel 2 1 5;panel 1 3 4;flaw 0 0;");
        due("the left upper corner", x.value(0, 0, 2, 1), 0);
        due("the right lower corner", x.value(2, 2, 2, 1), 5);
        due("upright", x.value(3, 0, 1, 3), 4);
        due("a square", x.value(3, 2, 1, 1), 0);
        due("all", x.value(0, 0, 4, 3), 25);

        says("NONE: there is none such.");
        int[][] none = {{1, 0, 4, 1}, {0, 0, 5, 1}, {4, 0, 1, 1}, {0, 1, 1, 3}, {0, 0, 1, 4}, {0, 3, 1, 1}, {-1, 0, 1, 1},
            {0, -1, 1, 1}, {-1, 0, 2, 1}, {0, 0, 0, 1}, {0, 0, 1, 0}, {0, 0, -1, 1}, {0, 0, 1, -1}, {2, 0, -1, 1},
            {MAX, 0, 1, 1}, {0, MAX, 1, 1}, {0, 0, MAX, 1}, {0, 0, 1, MAX}, {MAX, 0, MAX, 1}, {1, 0, MAX, 1}, {0, 1, 1, MAX},
            {MIN, 0, 1, 1}, {0, MIN, 1, 1}, {0, 0, MIN, 1}, {0, 0, 1, MIN}, {MIN, 0, MIN, 1}};
        for (int[] p : none) {
            due("piece " + p[0] + " " + p[1] + " " + p[2] + " " + p[3], x.value(p[0], p[1], p[2], p[3]), NONE);
        }
    }

    private void panels() {
        section("Promise 31");
        says("THE PLAN of the SHEET: how many PANELS.");
        due("none", new BentScreens().panels(), 0);
        due("no kinds", film("sheet 10 10;").panels(), 0);
        due("one", film("panel 1 1 1;").panels(), 1);
        due("a hundred", film("sheet 10 10;panel 1 1 1;").panels(), 100);
        BentScreens x = film("sheet 2 1;panel 1 1 1;");
        due("two", x.panels(), 2);
        Texts.film(x, "sheet 3 1;panel 1 1 1;");
        due("another film", x.panels(), 3);
    }

    private void panel() {
        section("Promise 32");
        says("Of the k-th PANEL of THE PLAN, from 0 on, what 0: KIND, 1: x, 2: y of its left upper square.");
        BentScreens x = film("sheet 4 3;panel 2 2 10;panel 1 3 4;flaw 1 1;");
        int[][] plan = {{1, 0, 0}, {0, 2, 1}};
        for (int k = 0; k < 2; k++) {
            for (int what = 0; what < 3; what++) {
                due("panel " + k + " what " + what, x.panel(k, what), plan[k][what]);
            }
        }

        says("NONE: there is none such, or for another what.");
        for (int k : new int[] {2, 3, 100, -1, MAX, MIN}) {
            due("panel " + k, x.panel(k, 0), NONE);
        }
        for (int what : new int[] {3, -1, MAX, MIN}) {
            due("what " + what, x.panel(0, what), NONE);
            due("what " + what, x.panel(1, what), NONE);
        }
        due("no panels", new BentScreens().panel(0, 0), NONE);
    }

    private void cost() {
        section("Promise 33");
        says("COST of mending a CRACK from now on: true; false: there is none such (in all), or another number.");
        BentScreens x = film("net 2 3;");
        due("no cracks", x.cost(0, 5), false);
        x.crack(false, 0, 0);
        x.day(1);
        x.crack(false, 0, 1);
        x.view(0);
        due("one beyond the view", x.cost(1, 9), true);
        due("the least", x.cost(0, 1), true);
        due("the greatest", x.cost(0, 99), true);
        int[][] refused = {{2, 5}, {-1, 5}, {40, 5}, {MAX, 5}, {MIN, 5}, {0, 0}, {0, 100}, {0, -1}, {0, MAX}, {0, MIN}};
        for (int[] c : refused) {
            due("crack " + c[0] + " cost " + c[1], x.cost(c[0], c[1]), false);
        }
        due("as it was, by the view", x.mend(0), 99);
        x.view(NONE);
        due("as it was, now", x.mend(0), 108);
    }

    private void mend() {
        section("Promise 34");
        says("MENDED, what 0: COST together, 1: how many, 2: the set.");
        BentScreens x = film("net 2 3;");
        for (int what = 0; what < 3; what++) {
            due("no cracks, what " + what, x.mend(what), 0);
        }
        x.crack(false, 0, 0);
        x.crack(true, 0, 0);
        x.crack(false, 1, 1);
        x.cost(2, 40);
        int[] due = {41, 2, 5};
        for (int what = 0; what < 3; what++) {
            due("what " + what, x.mend(what), due[what]);
        }

        says("NONE: it can't be told, or for another what.");
        for (int what : new int[] {3, -1, MAX, MIN}) {
            due("what " + what, x.mend(what), NONE);
        }
        x = film("net 6 6;");
        for (int k = 0; k < 10; k++) {
            x.crack(false, k / 5, k % 5);
        }
        due("ten", x.mend(0), 10);
        x.crack(false, 2, 0);
        for (int what = -1; what < 4; what++) {
            due("eleven, what " + what, x.mend(what), NONE);
        }
    }

    private void hand() {
        section("Promise 35");
        says("A HAND: its number. NONE: there are 4, or other numbers.");
        BentScreens x = new BentScreens();
        int[][] taken = {{1, 1, 1}, {999, 1, 9999}, {1, 999, 1}, {999, 999, 9999}};
        int[][] refused = {{0, 1, 1}, {1000, 1, 1}, {1, 0, 1}, {1, 1000, 1}, {1, 1, 0}, {1, 1, 10000}, {MIN, 1, 1}, {1, MAX, 1},
            {1, 1, MIN}};
        for (int k = 0; k < 4; k++) {
            for (int[] h : refused) {
                due("hand " + h[0] + " " + h[1] + " " + h[2], x.hand(h[0], h[1], h[2]), NONE);
            }
            due("as many as before", x.count(15), k);
            due("hand " + k, x.hand(taken[k][0], taken[k][1], taken[k][2]), k);
        }
        due("a fifth", x.hand(1, 1, 1), NONE);
        due("four", x.count(15), 4);
        Texts.film(x, "net 2 2;");
        due("four of another film, too", x.hand(1, 1, 1), NONE);
    }

    private void broken() {
        section("Promise 36");
        says("Whether a HAND's films are BROKEN behind so many YEARS. False, too, if there are none such (of either).");
        BentScreens x = film("layer 2 1 10 hold;life 0 1;");
        x.hand(1, 1, 1);
        due("behind 0", x.broken(0, 0), false);
        due("behind 1", x.broken(0, 1), true);
        due("behind 30", x.broken(0, 30), true);
        for (int years : new int[] {31, -1, MAX, MIN}) {
            due("behind " + years, x.broken(0, years), false);
        }
        for (int hand : new int[] {1, 3, 4, -1, MAX, MIN}) {
            due("hand " + hand, x.broken(hand, 30), false);
        }
        due("neither", x.broken(-1, -1), false);
    }

    private void share() {
        section("Promise 37");
        says("SHARE. NONE: YEARS are not 0 .. 30.");
        BentScreens x = film("layer 2 1 10 hold;life 0 1;");
        x.hand(1, 1, 1);
        due("behind 0", x.share(0), 0);
        due("behind 30", x.share(30), 1000);
        for (int years : new int[] {31, -1, MAX, MIN}) {
            due("behind " + years, x.share(years), NONE);
            due("without hands, behind " + years, new BentScreens().share(years), NONE);
        }
    }

    private void promise() {
        section("Promise 38");
        says("PROMISE. NONE: p is not 0 .. 1000, or behind 0 YEARS SHARE is above it.");
        BentScreens x = film("layer 2 1 10 hold;life 5 1;folds 1 1;");
        x.hand(1, 1, 1);
        due("above 0", x.promise(0), NONE);
        due("above 999", x.promise(999), NONE);
        due("not above 1000", x.promise(1000), 30);
        for (int p : new int[] {-1, 1001, MAX, MIN}) {
            due("p " + p, x.promise(p), NONE);
            due("without hands, p " + p, new BentScreens().promise(p), NONE);
        }
        // The HAND of great ROUND never breaks by itself, the other one in a year.
        x = film("layer 2 1 10 hold;life 5 300;");
        x.hand(1, 1, 201);
        due("none ever", x.promise(0), 30);
        x.hand(3, 1, 200);
        due("below", x.promise(749), 0);
        due("just", x.promise(750), 30);
    }

    private void lasts() {
        section("Promise 39");
        says("LASTS with a SHIFT. NONE: there is none such, or no PICTURE.");
        BentScreens x = film("net 1 2;");
        for (int shift = -1; shift < 7; shift++) {
            due("no picture, shift " + shift, x.lasts(shift), NONE);
        }
        x.picture(0, 0, 0, 0, 9, 999);
        int[] due = {1, 2, 1, 2, 1, 2};
        for (int shift = 0; shift < 6; shift++) {
            due("shift " + shift, x.lasts(shift), due[shift]);
        }
        for (int shift : new int[] {-1, 6, MAX, MIN}) {
            due("shift " + shift, x.lasts(shift), NONE);
        }
    }

    private void shift() {
        section("Promise 40");
        says("BEST SHIFT. NONE: there is no PICTURE.");
        BentScreens x = film("net 1 2;");
        due("no picture", x.shift(), NONE);
        x.picture(0, 0, 0, 0, 9, 999);
        due("best", x.shift(), 1);
        Texts.film(x, "net 1 2;");
        due("no picture any more", x.shift(), NONE);
    }

    private void test() {
        section("Promise 41");
        says("A TEST: its number. NONE: there are 12, other numbers, or k is not 0 .. n.");
        BentScreens x = new BentScreens();
        int[][] refused = {{0, 1, 1, 1}, {10, 1, 1, 1}, {1, 0, 1, 1}, {1, 1000000, 1, 1}, {1, 1, 0, 0}, {1, 1, 100, 1},
            {1, 1, 1, -1}, {1, 1, 1, 2}, {1, 1, 99, 100}, {MIN, 1, 1, 1}, {MAX, 1, 1, 1}, {1, MAX, 1, 1}, {1, MIN, 1, 1},
            {1, 1, MAX, 1}, {1, 1, MIN, MIN}, {1, 1, 1, MAX}, {1, 1, 1, MIN}};
        for (int[] t : refused) {
            due("test " + t[0] + " " + t[1] + " " + t[2] + " " + t[3], x.test(t[0], t[1], t[2], t[3]), NONE);
        }
        due("none of these", x.count(16), 0);
        int[][] taken = {{1, 1, 1, 0}, {9, 1, 99, 0}, {1, 999999, 1, 1}, {9, 999999, 99, 99}};
        for (int k = 0; k < 12; k++) {
            int[] t = taken[k % 4];
            due("test " + k, x.test(t[0], t[1], t[2], t[3]), k);
        }
        due("a 13th", x.test(1, 1, 1, 0), NONE);
        due("twelve", x.count(16), 12);
        Texts.film(x, "net 2 2;");
        due("twelve of another film, too", x.test(1, 1, 1, 0), NONE);
    }

    private void kept() {
        section("Promise 42");
        says("How many LAWS are KEPT.");
        BentScreens x = new BentScreens();
        due("all", x.kept(), 240);
        x.test(9, 719, 1, 0);
        due("some", x.kept(), 4);
        x.test(9, 719, 1, 1);
        due("the same", x.kept(), 4);
        x.test(9, 720, 1, 0);
        due("none", x.kept(), 0);
    }

    private void law() {
        section("Promise 43");
        says("The k-th KEPT LAW, from 0 on: 100 * b + a. NONE: there is none such.");
        BentScreens x = new BentScreens();
        due("the first", x.law(0), 1);
        due("the last of b 0", x.law(59), 60);
        due("the first of b 1", x.law(60), 101);
        due("the last", x.law(239), 360);
        for (int k : new int[] {240, -1, MAX, MIN}) {
            due("law " + k, x.law(k), NONE);
        }
        x.test(9, 719, 1, 0);
        due("the first that is kept", x.law(0), 60);
        due("the last that is kept", x.law(3), 360);
        due("no more", x.law(4), NONE);
        x.test(9, 720, 1, 0);
        due("none", x.law(0), NONE);
    }

    private void span() {
        section("Promise 44");
        says("SPAN at a SPEED, the least, or (most) the greatest. NONE: there is none such, or no LAW is KEPT.");
        BentScreens x = new BentScreens();
        due("least at 1", x.span(1, false), 8);
        due("greatest at 1", x.span(1, true), 524880);
        due("least at 9", x.span(9, false), 8);
        due("greatest at 9", x.span(9, true), 720);
        for (int speed : new int[] {0, 10, -1, MAX, MIN}) {
            due("speed " + speed, x.span(speed, false), NONE);
            due("speed " + speed, x.span(speed, true), NONE);
        }
        x.test(9, 720, 1, 0);
        due("no law", x.span(1, false), NONE);
        due("no law", x.span(9, true), NONE);
    }

    private void quarrel() {
        section("Promise 45");
        says("The k-th TEST of QUARREL, from 0 on. NONE: there is none such.");
        BentScreens x = new BentScreens();
        due("no tests", x.quarrel(0), NONE);
        x.test(9, 200, 1, 0);
        due("laws are kept", x.quarrel(0), NONE);
        x.test(9, 120, 1, 1);
        due("the first", x.quarrel(0), 0);
        due("the second", x.quarrel(1), 1);
        for (int k : new int[] {2, 12, -1, MAX, MIN}) {
            due("test " + k, x.quarrel(k), NONE);
        }
    }

    private void next() {
        section("Promise 46");
        says("NEXT, what 0: the SPEED, 1: folds, 2: that greater number. NONE for another what.");
        BentScreens x = new BentScreens();
        x.test(7, 32, 2, 2);
        due("speed", x.next(0), 9);
        due("folds", x.next(1), 20);
        due("number", x.next(2), 3);
        for (int what : new int[] {3, -1, MAX, MIN}) {
            due("what " + what, x.next(what), NONE);
        }
        x.test(9, 1, 1, 1);
        due("no laws: speed", x.next(0), 1);
        due("no laws: folds", x.next(1), 10);
        due("no laws: number", x.next(2), 0);
    }

    private void rules() {
        section("Promise 47");
        says("The tape is taken (and is empty then), as RULES from now on: how many LINES.");
        BentScreens x = new BentScreens();
        due("an empty tape", x.rules(), 0);
        due("two", Texts.rules(x, "price 5;bar;"), 2);
        due("the tape is empty", x.end(1), NONE);
        due("one", Texts.rules(x, "price 6;"), 1);
        due("elder ones are gone", x.price(), 6);
        due("elder ones are gone", x.barred(), NONE);
        due("an empty tape", x.rules(), 0);
        due("elder ones are gone", x.price(), 0);

        says("NONE: a FAULT (told by fault()).");
        Texts.rules(x, "price 6;");
        due("a fault", Texts.rules(x, "price 7;price"), NONE);
        due("told", x.fault(0) * 1000 + x.fault(1), 1013);
        due("the tape is empty", x.end(1), NONE);
        due("elder ones stay", x.price(), 6);
        due("a fault", Texts.rules(x, "price 1;".repeat(17)), NONE);
        due("told", x.fault(0) * 1000 + x.fault(1), 3128);
        due("elder ones stay", x.price(), 6);
        due("elder ones stay", x.count(17), 1);
    }

    private void barred() {
        section("Promise 48");
        says("The LINE by which the film is BARRED. NONE: none.");
        BentScreens x = new BentScreens();
        due("no rules", x.barred(), NONE);
        Texts.rules(x, "price 1;if day=1:bar;bar;");
        due("from 0 on", x.barred(), 2);
        x.day(1);
        due("as it is now", x.barred(), 1);
        Texts.rules(x, "if day=0:bar;");
        due("none holds", x.barred(), NONE);
    }

    private void price() {
        section("Promise 49");
        says("PRICE.");
        BentScreens x = new BentScreens();
        due("no rules", x.price(), 0);
        Texts.rules(x, "price 5;if day=1:less 3;if rows=2:less 9;");
        due("at first", x.price(), 5);
        x.day(1);
        due("on another day", x.price(), 2);
        Texts.film(x, "net 2 1;");
        due("of another film", x.price(), 0);
    }

    private void count() {
        section("Promise 50");
        says("How many: 0 LAYERS, 1 LIVES, 2 FOLDS, 3 KINDS of PANELS, 4 FLAWS, 5 ROWS, 6 COLUMNS, 7 how wide, 8 how high the"
                + " SHEET is, 9 CRACKS (in all), 10 PICTURES, 11 the DAY, 12 THE VIEW (NONE: NOW), 13 days of DAMP, 14 LINES of"
                + " the film, 15 HANDS, 16 TESTS, 17 LINES of RULES, 18 CRACKS by THE VIEW.");
        BentScreens x = film("layer 1 1 1 hold;layer 1 1 1 hold;life 1 1;life 2 1;life 3 1;folds 1 1;panel 1 1 1;panel 1 1 1;"
                + "panel 1 1 1;panel 1 1 1;flaw 0 0;flaw 0 0;flaw 1 1;flaw 2 2;flaw 3 3;net 5 6;sheet 7 8;");
        x.day(4);
        x.crack(true, 0, 0);
        x.day(9);
        x.crack(true, 1, 0);
        x.crack(true, 2, 0);
        due("the view is NOW", x.count(12), NONE);
        due("cracks by NOW", x.count(18), 3);
        x.view(6);
        x.picture(0, 0, 0, 0, 1, 1);
        x.picture(0, 0, 0, 0, 1, 1);
        x.wet(77);
        x.hand(1, 1, 1);
        x.hand(1, 1, 1);
        x.hand(1, 1, 1);
        x.test(1, 1, 1, 1);
        Texts.rules(x, "bar;bar;bar;bar;");
        int[] due = {2, 3, 1, 4, 5, 5, 6, 7, 8, 3, 2, 9, 6, 77, 17, 3, 1, 4, 1};
        for (int what = 0; what < due.length; what++) {
            due("count " + what, x.count(what), due[what]);
        }

        says("-2 for another what.");
        due("count 19", x.count(19), -2);
        for (int what : OTHERS) {
            due("count " + what, x.count(what), -2);
        }
    }

    private void image() {
        section("Promise 51");
        says("Image k (0 .. 2) is all that is told (the tape, the FAULT, too), as it is now: true; false for another k.");
        BentScreens x = new BentScreens();
        for (int k : new int[] {3, -1, MAX, MIN}) {
            due("image " + k, x.image(k), false);
            due("none came of it: " + k, x.again(k), false);
        }
        for (int k = 0; k < 3; k++) {
            Texts.film(x, "net " + (k + 2) + " 1;x");
            Texts.film(x, "net " + (k + 2) + " 1;");
            Texts.film(x, "  net".repeat(k + 1));
            Texts.put(x, "sheet " + (k + 5) + " 1;");
            due("image " + k, x.image(k), true);
        }
        for (int k = 2; k >= 0; k--) {
            due("again " + k, x.again(k), true);
            due("the film", x.count(5), k + 2);
            due("the FAULT", x.fault(0), 1);
            due("its place", x.fault(1), k == 0 ? 5 : 7);
            due("the tape", x.film(), 1);
            due("the tape", x.count(7), k + 5);
        }
        // TESTS of RULES, too.
        Texts.rules(x, "if day=0 and rows=9:price 1;price 2;");
        x.image(0);
        Texts.rules(x, "if day=0:price 1;if day=0:price 2;");
        due("other rules", x.price(), 3);
        x.again(0);
        due("rules as they were", x.price(), 2);
        // An image is made anew as often as wanted, and does not go on by itself.
        x.image(1);
        x.day(7);
        x.again(1);
        due("as it was then", x.count(11), 0);
        x.day(8);
        x.image(1);
        x.day(9);
        x.again(1);
        due("as it was the second time", x.count(11), 8);
    }

    private void again() {
        section("Promise 52");
        says("All that is as image k has it (other images stay): true; false if there is none such.");
        BentScreens x = new BentScreens();
        for (int k = -1; k < 4; k++) {
            due("no image " + k, x.again(k), false);
        }
        x.image(1);
        x.day(5);
        due("no image 0", x.again(0), false);
        due("no image 2", x.again(2), false);
        due("it is as it was", x.count(11), 5);
        x.image(2);
        due("back", x.again(1), true);
        due("back", x.count(11), 0);
        due("the other one stays", x.again(2), true);
        due("the other one stays", x.count(11), 5);
        x.day(6);
        due("once more", x.again(1), true);
        due("once more", x.count(11), 0);
        due("an earlier day can be told again", x.day(3), true);
        due("the other one stays", x.again(2), true);
        due("the other one stays", x.count(11), 5);
        for (int k : new int[] {0, 3, -1, MAX, MIN}) {
            due("no image " + k, x.again(k), false);
        }
    }
}
