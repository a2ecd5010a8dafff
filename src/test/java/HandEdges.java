/** Each sentence of the document's Terms 6 and 7 that names a boundary case: mending, hands, rounds, laws and tests. */
final class HandEdges extends Edges {
    HandEdges(Ledger ledger) {
        super(ledger);
    }

    @Override
    void run() {
        section("Terms 6");
        costs();
        mended();
        hands();
        broken();
        shares();
        shifts();
        lasts();
        section("Terms 7");
        laws();
        tests();
        keptBy();
        spans();
        quarrels();
        next();
    }

    // ---- Terms 6 ----

    private void costs() {
        says("CRACKS have numbers, from 0 on, as they were told, and a COST of mending, 1 .. 99 (1 at first).");
        BentScreens x = film("net 3 2;");
        x.crack(false, 2, 0);
        x.crack(true, 0, 0);
        x.crack(false, 0, 0);
        due("1 at first", x.mend(0), 2);
        due("numbers 0 and 2", x.mend(2), 5);
        due("the greatest", x.cost(0, 99), true);
        due("it counts", x.mend(0), 100);
        due("the second one that counts", x.cost(2, 50), true);
        due("it counts", x.mend(0), 149);
        due("the least", x.cost(0, 1), true);
        due("it counts", x.mend(0), 51);
        int[][] refused = {{0, 0}, {0, 100}, {0, -1}, {0, MAX}, {0, MIN}, {-1, 5}, {3, 5}, {MAX, 5}, {MIN, 5}};
        for (int[] c : refused) {
            due("crack " + c[0] + ", cost " + c[1], x.cost(c[0], c[1]), false);
        }
        due("all stays", x.mend(0), 51);
        x = film("net 6 6;");
        for (int k = 0; k < 40; k++) {
            x.crack(k >= 30, k < 30 ? k / 5 : (k - 30) / 6, k < 30 ? k % 5 : (k - 30) % 6);
        }
        due("forty", x.count(9), 40);
        due("the last number", x.cost(39, 2), true);
        due("behind it", x.cost(40, 2), false);
    }

    private void dueMended(String what, BentScreens x, int cost, int many, int set) {
        due(what + ": cost", x.mend(0), cost);
        due(what + ": how many", x.mend(1), many);
        due(what + ": set", x.mend(2), set);
    }

    private void mended() {
        says("MENDED: that set of CRACKS (of those by THE VIEW; if they are more than 10 it can't be told) by whose mending all"
                + " ROWS are FED, with the least COST together; of several with the fewest; then the least number (bits).");
        BentScreens x = film("net 6 6;");
        dueMended("no cracks", x, 0, 0, 0);
        for (int k = 0; k < 10; k++) {
            x.crack(k % 2 == 0, k / 2, k / 2);
        }
        dueMended("ten: the lines alone", x, 5, 5, 0x2aa);
        x.day(5);
        x.crack(true, 0, 5);
        dueMended("eleven", x, NONE, NONE, NONE);
        x.view(4);
        dueMended("ten by the view", x, 5, 5, 0x2aa);
        x.view(5);
        dueMended("eleven by the view", x, NONE, NONE, NONE);
        x.view(NONE);
        dueMended("eleven now", x, NONE, NONE, NONE);
        x = film("net 6 6;");
        for (int k = 0; k < 10; k++) {
            x.crack(false, k / 5, k % 5);
        }
        dueMended("all of ten", x, 10, 10, 0x3ff);
        x = film("net 6 6;");
        for (int k = 0; k < 10; k++) {
            x.crack(true, k / 6, k % 6);
        }
        dueMended("none of ten: all rows are fed", x, 0, 0, 0);
        x = film("net 2 2;");
        x.crack(false, 1, 0);
        x.day(1);
        x.crack(false, 0, 0);
        x.cost(1, 7);
        dueMended("now", x, 8, 2, 3);
        x.view(0);
        dueMended("by the view", x, 1, 1, 1);
    }

    private void hands() {
        says("HANDS, at most 4, from 0 on: so many films, 1 .. 999, folded so many times a day, 1 .. 999, in a ROUND.");
        BentScreens x = film("layer 2 1 10 hold;life 0 365;");
        due("none", x.count(15), 0);
        int[][] refused = {{0, 1, 1}, {1000, 1, 1}, {-1, 1, 1}, {1, 0, 1}, {1, 1000, 1}, {1, -1, 1}, {1, 1, 0}, {1, 1, 10000},
            {1, 1, -1}, {MAX, 1, 1}, {1, MAX, 1}, {1, 1, MAX}, {MIN, 1, 1}, {1, MIN, 1}, {1, 1, MIN}};
        for (int[] h : refused) {
            due("hand " + h[0] + " " + h[1] + " " + h[2], x.hand(h[0], h[1], h[2]), NONE);
        }
        due("none of these", x.count(15), 0);
        due("no hand", x.broken(0, 1), false);
        due("the least of all", x.hand(1, 1, 1), 0);
        due("the most films", x.hand(999, 1, 9999), 1);
        due("the most folds", x.hand(1, 999, 1), 2);
        due("the greatest of all", x.hand(999, 999, 9999), 3);
        due("a fifth", x.hand(1, 1, 1), NONE);
        due("four", x.count(15), 4);
        due("no fifth", x.broken(4, 1), false);
    }

    private void broken() {
        says("A film of a HAND is BROKEN behind y YEARS, 0 .. 30, if some LAYER's TIRED part by all FOLDS, and 365 * y * (folds"
                + " a day) folds of the HAND's ROUND besides, is 1 or more.");
        BentScreens x = film("layer 2 1 10 hold;life 0 365;");
        x.hand(1, 1, 9999);
        due("no folds", x.broken(0, 0), false);
        due("just 365 of 365", x.broken(0, 1), true);
        due("30 years", x.broken(0, 30), true);
        due("31 years", x.broken(0, 31), false);
        due("below 0", x.broken(0, -1), false);
        x = film("layer 2 1 10 hold;life 0 366;");
        x.hand(1, 1, 9999);
        due("365 of 366", x.broken(0, 1), false);
        due("730 of 366", x.broken(0, 2), true);
        // FOLDS besides: 1 and 365 of 366.
        x = film("layer 2 1 10 hold;life 0 366;folds 1 500;");
        x.hand(1, 1, 700);
        due("one alone", x.broken(0, 0), false);
        due("one and 365", x.broken(0, 1), true);
        x = film("layer 2 1 10 hold;life 0 366;folds 183 500;folds 183 500;");
        x.hand(1, 1, 700);
        due("by folds alone, behind 0 years", x.broken(0, 0), true);
        // STRETCH of the HAND's ROUND: 1000 / r is 5 at 200.
        x = film("layer 2 1 10 hold;life 5 300;");
        x.hand(1, 1, 200);
        x.hand(1, 999, 201);
        due("in its round", x.broken(0, 1), true);
        due("in another one", x.broken(1, 30), false);
        // Some LAYER is enough: the second one, of THICK 4, has 10 at 200.
        x = film("layer 2 1 1 slide;layer 4 1 1 slide;layer 2 1 1 hold;life 9 300;");
        x.hand(1, 1, 200);
        due("one layer of three", x.broken(0, 1), true);
        x = film("life 0 1;folds 9 9;");
        x.hand(1, 999, 1);
        due("no layers", x.broken(0, 30), false);
    }

    private void shares() {
        says("SHARE of y YEARS: 1000 * films of those HANDS that are BROKEN / films of all, cut (0 without HANDS).");
        BentScreens x = film("layer 2 1 10 hold;life 0 730;");
        due("without hands", x.share(0), 0);
        due("without hands", x.share(30), 0);
        x.hand(2, 2, 1);
        x.hand(1, 1, 1);
        due("none", x.share(0), 0);
        due("two of three", x.share(1), 666);
        due("all", x.share(2), 1000);
        due("30 years", x.share(30), 1000);
        due("31 years", x.share(31), NONE);
        due("below 0", x.share(-1), NONE);
        x.hand(999, 1, 1);
        due("two of 1002", x.share(1), 1);
        x.hand(999, 1, 1);
        due("two of 2001", x.share(1), 0);

        says("PROMISE for p thousandths: the most YEARS, 0 .. 30, whose SHARE, as that of all fewer YEARS, is p at most.");
        x = film("layer 2 1 10 hold;life 0 730;");
        due("without hands", x.promise(0), 30);
        x.hand(2, 2, 1);
        x.hand(1, 1, 1);
        due("none", x.promise(0), 0);
        due("just below two of three", x.promise(665), 0);
        due("just two of three", x.promise(666), 1);
        due("just below all", x.promise(999), 1);
        due("all", x.promise(1000), 30);
        due("below 0", x.promise(-1), NONE);
        due("above 1000", x.promise(1001), NONE);
        x = film("layer 2 1 10 hold;life 0 730;folds 730 1;");
        x.hand(1, 1, 1);
        due("broken behind 0 years", x.promise(0), NONE);
        due("broken behind 0 years", x.promise(999), NONE);
        due("broken behind 0 years", x.promise(1000), 30);
    }

    private void shifts() {
        says("ROUNDS of pictures: all PICTURES one behind the other, again and again. With a SHIFT, 0 .. 5, in ROUND n, from 0"
                + " on, a LAMP of a COLUMN c is lit as that of COLUMN (c + n * SHIFT), remainder by COLUMNS, of its ROW is"
                + " told.");
        BentScreens x = film("net 2 3;");
        x.picture(1, 1, 2, 2, 9, 999);
        int[] rounds = {1, 3, 3, 1, 3, 3};
        for (int shift = 0; shift < 6; shift++) {
            due("shift " + shift, x.lasts(shift), rounds[shift]);
        }
        due("shift -1", x.lasts(-1), NONE);
        due("shift 6", x.lasts(6), NONE);
        // Rows do not mix: row 0 has the other two columns.
        x.picture(0, 0, 0, 1, 4, 999);
        due("of its row", x.lasts(1), 3);
        x.picture(0, 0, 2, 2, 4, 999);
        due("of its row", x.lasts(1), 2);
        x = film("net 1 1;");
        x.picture(0, 0, 0, 0, 5, 999);
        for (int shift = 0; shift < 6; shift++) {
            due("one column, shift " + shift, x.lasts(shift), 2);
        }
        x = film("net 1 6;");
        x.picture(0, 0, 5, 5, 9, 999);
        int[] six = {1, 6, 3, 2, 3, 6};
        for (int shift = 0; shift < 6; shift++) {
            due("six columns, shift " + shift, x.lasts(shift), six[shift]);
        }

        says("BEST SHIFT: that which LASTS most, of several the least.");
        due("1 as 5", x.shift(), 1);
        // 1998 in three columns one beside another: 0 lasts 5, 1 lasts 8, 2 lasts 7, 3 lasts 10.
        x = film("net 1 6;");
        x.picture(0, 0, 0, 2, 2, 999);
        int[] beside = {5, 8, 7, 10, 7, 8};
        for (int shift = 0; shift < 6; shift++) {
            due("half of six, shift " + shift, x.lasts(shift), beside[shift]);
        }
        due("3", x.shift(), 3);
        x = film("net 1 6;");
        x.picture(0, 0, 0, 5, 2, 999);
        due("all alike", x.shift(), 0);
    }

    private void lasts() {
        says("LASTS: how many ROUNDS there are behind each of which every LAMP's AGE is below 10000 (1000 at most).");
        int[][] lights = {{9, 1, 1000}, {5, 2, 999}, {1, 1, 1000}, {1, 11, 909}, {5, 200, 9}, {1, 999, 10}, {9, 999, 1},
            {5, 999, 2}, {1, 909, 11}};
        for (int[] light : lights) {
            BentScreens x = new BentScreens();
            x.picture(0, 0, 0, 0, light[0], light[1]);
            due("AGE " + light[0] * light[1] + " a round", x.lasts(0), light[2]);
        }
        BentScreens x = new BentScreens();
        due("no picture", x.lasts(0), NONE);
        x.picture(0, 0, 0, 0, 9, 999);
        x.picture(0, 0, 0, 0, 9, 112);
        due("9999 a round", x.lasts(0), 1);
        x.picture(0, 0, 0, 0, 1, 1);
        due("10000 a round", x.lasts(0), 0);
        x.picture(0, 0, 0, 0, 9, 999);
        due("more", x.lasts(0), 0);
        x = film("net 2 2;");
        x.picture(0, 0, 0, 0, 1, 1);
        x.picture(1, 1, 1, 1, 5, 200);
        due("every lamp", x.lasts(0), 9);
        // 9999 in one ROUND, 1 in the next.
        x = film("net 1 2;");
        x.picture(0, 0, 0, 0, 9, 999);
        x.picture(0, 0, 0, 0, 9, 112);
        x.picture(0, 0, 1, 1, 1, 1);
        due("9999, then 10000", x.lasts(1), 1);
    }

    // ---- Terms 7 ----

    private void laws() {
        says("LAWS of folds are a, 1 .. 60, and b, 0 .. 3: at a SPEED v, 1 .. 9, a film cracks at some fold from 8 * a *"
                + " (10 - v) ^ b to 12 * a * (10 - v) ^ b.");
        BentScreens x = new BentScreens();
        due("four times sixty", x.kept(), 240);
        for (int k = 0; k < 240; k++) {
            due("law " + k, x.law(k), 100 * (k / 60) + 1 + k % 60);
        }
        for (int speed = 1; speed <= 9; speed++) {
            int greatest = 12 * 60 * (10 - speed) * (10 - speed) * (10 - speed);
            due("a 1, b 0 at " + speed, x.span(speed, false), 8);
            due("a 60, b 3 at " + speed, x.span(speed, true), greatest);
            due("test at " + speed, x.test(speed, 999999, 1, 1), speed - 1);
        }
        for (int speed : new int[] {0, 10, -1, MAX, MIN}) {
            due("span at " + speed, x.span(speed, true), NONE);
            due("span at " + speed, x.span(speed, false), NONE);
            due("test at " + speed, x.test(speed, 999999, 1, 1), NONE);
        }
        due("nine tests", x.count(16), 9);
        due("all are kept by these", x.kept(), 240);
    }

    private void tests() {
        says("TESTS, at most 12, from 0 on: at a SPEED, folded r times, 1 .. 999999, of n films, 1 .. 99, k cracked by then.");
        BentScreens x = new BentScreens();
        due("none", x.count(16), 0);
        int[][] refused = {{0, 1, 1}, {1000000, 1, 1}, {-1, 1, 1}, {MAX, 1, 1}, {MIN, 1, 1}, {1, 0, 0}, {1, 100, 1}, {1, -1, 0},
            {1, MAX, 1}, {1, MIN, MIN}, {1, 1, -1}, {1, 1, 2}, {1, 99, 100}, {1, 5, MAX}, {1, 5, MIN}};
        for (int[] t : refused) {
            due("folds " + t[0] + ", " + t[2] + " of " + t[1], x.test(9, t[0], t[1], t[2]), NONE);
        }
        due("none of these", x.count(16), 0);
        due("all are kept", x.kept(), 240);
        int[][] taken = {{1, 1, 0}, {1, 99, 0}, {999999, 1, 1}, {999999, 99, 99}, {480, 99, 99}, {5, 98, 0}};
        for (int k = 0; k < 12; k++) {
            int[] t = taken[k % 6];
            due("test " + k, x.test(9, t[0], t[1], t[2]), k);
        }
        due("a 13th", x.test(9, 1, 1, 1), NONE);
        due("twelve", x.count(16), 12);
        due("all are kept", x.kept(), 240);
    }

    /** How many LAWS one TEST keeps. */
    private void keeps(int speed, int folds, int films, int cracked, int laws) {
        BentScreens x = new BentScreens();
        x.test(speed, folds, films, cracked);
        due(cracked + " of " + films + " behind " + folds + " at " + speed, x.kept(), laws);
    }

    private void keptBy() {
        says("A LAW is KEPT by it, if k is 0 or r is the least of these folds at least, and k is n or r is below the greatest.");
        // At SPEED 9 a film cracks from 8 * a to 12 * a, whatever b.
        keeps(9, 7, 1, 1, 0);
        keeps(9, 8, 1, 1, 4);
        keeps(9, 479, 1, 1, 236);
        keeps(9, 480, 1, 1, 240);
        keeps(9, 11, 1, 0, 240);
        keeps(9, 12, 1, 0, 236);
        keeps(9, 719, 1, 0, 4);
        keeps(9, 720, 1, 0, 0);
        keeps(9, 7, 2, 1, 0);
        keeps(9, 8, 2, 1, 4);
        keeps(9, 11, 2, 1, 4);
        keeps(9, 12, 2, 1, 0);
        keeps(9, 12, 2, 2, 4);
        keeps(9, 480, 99, 98, 80);
        keeps(9, 719, 99, 1, 4);
        keeps(9, 720, 99, 98, 0);
        keeps(9, 720, 99, 99, 240);
        // At SPEED 1 the last LAW goes from 349920 to 524880.
        keeps(1, 349919, 1, 1, 239);
        keeps(1, 349920, 1, 1, 240);
        keeps(1, 524879, 1, 0, 1);
        keeps(1, 524880, 1, 0, 0);
        // At SPEED 8 the first LAWS go from 8, 16, 32, 64 on.
        keeps(8, 15, 1, 1, 1);
        keeps(8, 16, 1, 1, 3);
        keeps(1, 71, 1, 1, 8);
        keeps(1, 72, 1, 1, 10);

        says("KEPT LAWS: by all TESTS; in order by b, then a.");
        BentScreens x = new BentScreens();
        x.test(9, 12, 1, 0);
        x.test(9, 23, 1, 1);
        due("a is 2: by four b", x.kept(), 4);
        for (int b = 0; b < 4; b++) {
            due("b " + b, x.law(b), 100 * b + 2);
        }
        due("no more", x.law(4), NONE);
        x.test(1, 9 * 16, 1, 1);
        due("b is 0 or 1", x.kept(), 2);
        due("b is 1", x.law(1), 102);
        x.test(1, 9 * 16 - 1, 1, 1);
        due("b is 0", x.kept(), 1);
        due("b is 0", x.law(0), 2);
        x.test(1, 15, 1, 1);
        due("none", x.kept(), 0);
        due("none", x.law(0), NONE);
    }

    private void spans() {
        says("SPAN at a SPEED: from the least of these folds to the greatest, of all KEPT LAWS.");
        BentScreens x = new BentScreens();
        x.test(9, 12, 1, 0);
        x.test(9, 31, 1, 1);
        // a is 2 or 3.
        due("least at 9", x.span(9, false), 16);
        due("greatest at 9", x.span(9, true), 36);
        due("least at 8", x.span(8, false), 16);
        due("greatest at 8", x.span(8, true), 36 * 8);
        x.test(8, 36 * 4, 1, 0);
        // b is 3.
        due("least at 8", x.span(8, false), 16 * 8);
        due("greatest at 1", x.span(1, true), 36 * 729);
        x = new BentScreens();
        x.test(1, 9, 1, 1);
        due("the first law alone", x.span(9, false), 8);
        due("the first law alone", x.span(1, true), 12);
        x = new BentScreens();
        x.test(1, 524879, 1, 0);
        due("the last law alone", x.span(9, false), 480);
        due("the last law alone", x.span(1, true), 524880);
        x.test(9, 7, 1, 1);
        due("none is kept", x.span(9, false), NONE);
        due("none is kept", x.span(9, true), NONE);
    }

    private void dueQuarrel(String what, BentScreens x, int... tests) {
        for (int k = 0; k < tests.length; k++) {
            due(what + ": " + k, x.quarrel(k), tests[k]);
        }
        due(what + ": no more", x.quarrel(tests.length), NONE);
        due(what + ": none before", x.quarrel(-1), NONE);
    }

    private void quarrels() {
        says("QUARREL, if there are none: the fewest TESTS by which together no LAW is KEPT; of several the least row.");
        BentScreens x = new BentScreens();
        dueQuarrel("no tests", x);
        x.test(9, 12, 1, 0);
        dueQuarrel("some are kept", x);
        x.test(9, 7, 1, 1);
        dueQuarrel("one test", x, 1);
        x.test(9, 720, 1, 0);
        dueQuarrel("the first of two", x, 1);
        x = new BentScreens();
        // a above 16, above 25; a up to 15, up to 12.
        x.test(9, 200, 1, 0);
        x.test(9, 300, 1, 0);
        x.test(9, 120, 1, 1);
        x.test(9, 100, 1, 1);
        dueQuarrel("the least of four rows", x, 0, 2);
        x.test(9, 1, 1, 1);
        dueQuarrel("fewer than two", x, 4);
        x = new BentScreens();
        x.test(1, 9, 1, 1);
        due("the first law alone", x.kept(), 1);
        dueQuarrel("the first law alone", x);
        x.test(1, 12, 1, 0);
        dueQuarrel("two", x, 0, 1);
        x = new BentScreens();
        // a is 17 at least; b is 0 by a crack at SPEED 1, and then a is below 75; none cracked there at 900.
        x.test(9, 200, 1, 0);
        x.test(1, 1000, 1, 1);
        x.test(9, 600, 1, 1);
        x.test(1, 900, 1, 0);
        dueQuarrel("three", x, 0, 1, 3);
        x = new BentScreens();
        for (int k = 0; k < 10; k++) {
            x.test(9, 480, 1, 1);
        }
        x.test(9, 200, 1, 0);
        x.test(9, 120, 1, 1);
        dueQuarrel("the last two of twelve", x, 10, 11);
        x = new BentScreens();
        for (int k = 0; k < 11; k++) {
            x.test(9, 480, 1, 1);
        }
        x.test(9, 7, 1, 1);
        dueQuarrel("the last of twelve", x, 11);
    }

    private void dueNext(int[] test, int speed, int folds, int number) {
        BentScreens x = new BentScreens();
        x.test(test[0], test[1], test[2], test[3]);
        String what = "behind " + test[3] + " of " + test[2] + " by " + test[1] + " at " + test[0];
        due("speed " + what, x.next(0), speed);
        due("folds " + what, x.next(1), folds);
        due("number " + what, x.next(2), number);
    }

    private void next() {
        says("NEXT: a SPEED v and folds r = 10 * 2 ^ j, j 0 .. 14, of one film, for which the greater of both numbers of LAWS"
                + " that would be KEPT, if it has cracked, if it has not, is least; of several the least SPEED, then the least j.");
        BentScreens x = new BentScreens();
        due("speed without tests", x.next(0), 1);
        due("folds without tests", x.next(1), 5120);
        due("number without tests", x.next(2), 128);
        dueNext(new int[] {7, 32, 2, 2}, 9, 20, 3);
        dueNext(new int[] {4, 69, 2, 2}, 1, 40, 6);
        dueNext(new int[] {2, 445, 2, 2}, 8, 160, 42);
        dueNext(new int[] {4, 782, 2, 2}, 4, 320, 48);
        dueNext(new int[] {2, 4746, 2, 2}, 2, 640, 71);
        dueNext(new int[] {4, 12101, 2, 2}, 4, 1280, 90);
        dueNext(new int[] {6, 1595, 2, 0}, 5, 10240, 80);
        dueNext(new int[] {3, 173, 2, 1}, 6, 160, 7);
        dueNext(new int[] {1, 73, 2, 1}, 7, 40, 3);
        dueNext(new int[] {8, 508, 2, 0}, 2, 20480, 89);
        dueNext(new int[] {4, 2998, 2, 0}, 1, 40960, 79);
        dueNext(new int[] {7, 4445, 2, 0}, 3, 81920, 41);
        // The greatest j there is.
        dueNext(new int[] {1, 314787, 2, 0}, 3, 163840, 24);
        // Where nothing parts them: the least SPEED, the least j.
        dueNext(new int[] {1, 524879, 2, 1}, 1, 10, 1);
        dueNext(new int[] {1, 349919, 1, 0}, 1, 10, 21);
        dueNext(new int[] {5, 1, 1, 1}, 1, 10, 0);
    }
}
