/** Behind a call that is refused, and behind a question, all that was told is as it was. */
final class RefusedEdges extends Edges {
    private static final String FILM = "layer 2 1 10 hold;layer 2 3 5 slide;layer 4 1 99 hold;life 0 100;life 5 10;"
            + "folds 20 400;folds 30 100;sheet 4 3;panel 2 2 10;panel 1 3 4;flaw 1 1;net 3 4;";
    private static final String BRIM = "layer 2 1 10 hold;".repeat(6) + "life 0 9;life 5 8;life 6 7;life 7 6;"
            + "folds 1 9;".repeat(6) + "panel 1 1 1;".repeat(4) + "flaw 0 0;".repeat(20) + "net 6 6;";

    /** A call of an object. */
    private interface Call {
        long on(BentScreens x);
    }

    RefusedEdges(Ledger ledger) {
        super(ledger);
    }

    @Override
    void run() {
        tape();
        days();
        net();
        lamps();
        hands();
        images();
        texts();
        questions();
        answeredAtOnce();
        behindOrder();
    }

    /** Some of everything is told. */
    private static BentScreens some() {
        BentScreens x = film(FILM);
        x.day(3);
        x.crack(false, 0, 0);
        x.crack(true, 1, 2);
        x.cost(0, 7);
        x.day(5);
        x.crack(false, 2, 1);
        x.view(4);
        x.picture(0, 1, 0, 2, 5, 300);
        x.picture(2, 2, 3, 3, 9, 999);
        x.wet(4);
        x.hand(3, 1, 100);
        x.hand(1, 2, 700);
        x.test(9, 100, 1, 0);
        x.test(8, 700, 2, 1);
        Texts.rules(x, "price 50;if cracks=2:less 8;if day=5 and not whole:bar;");
        x.image(1);
        Texts.film(x, "net");
        Texts.put(x, "net 5 4;sheet 2 2;");
        return x;
    }

    /** As many of everything as there may be. */
    private static BentScreens brim() {
        BentScreens x = film(BRIM);
        x.day(999);
        for (int k = 0; k < 40; k++) {
            x.crack(k >= 20, k % 20 / 5, k % 5);
        }
        for (int k = 0; k < 12; k++) {
            x.picture(k % 6, 5, k / 2, 5, 1 + k % 9, 90);
            x.test(1 + k % 9, 1000 * (k + 1), 2, k % 3);
        }
        for (int k = 0; k < 4; k++) {
            x.hand(1 + k, 1 + k, 500 + k);
        }
        x.wet(200);
        Texts.rules(x, "price 50;".repeat(16));
        for (int k = 0; k < 3; k++) {
            x.image(k);
        }
        Texts.put(x, "net 5 4;" + " ".repeat(492));
        return x;
    }

    private void refused(String what, Call call, long answer) {
        refusedOf(what, call, answer, false);
        refusedOf(what + " (full)", call, answer, true);
    }

    private void refusedOf(String what, Call call, long answer, boolean full) {
        BentScreens x = full ? brim() : some();
        due(what, call.on(x), answer);
        alike(what, Look.at(x), Look.at(full ? brim() : some()));
    }

    private static long of(boolean answer) {
        return answer ? 1 : 0;
    }

    private void tape() {
        section("Promise 2");
        says("NONE, and nothing comes, if there would be more than 500.");
        refusedOf("feed beyond 500", x -> x.feed(-1, -1, -1, -1, -1), NONE, true);

        section("Promise 3");
        says("NONE if it has not so many, or n is below 0.");
        refused("end 501", x -> x.end(501), NONE);
        refused("end -1", x -> x.end(-1), NONE);
        refusedOf("end behind the tape", x -> x.end(19), NONE, false);
    }

    private void days() {
        section("Promise 15");
        says("false: it is earlier than it was, or above 999.");
        refusedOf("an earlier day", x -> of(x.day(4)), 0, false);
        refusedOf("an earlier day", x -> of(x.day(998)), 0, true);
        refused("a day above 999", x -> of(x.day(1000)), 0);
        refused("a day below 0", x -> of(x.day(-1)), 0);

        section("Promise 16");
        says("false: it is later than now, or none.");
        refusedOf("a view later than now", x -> of(x.view(6)), 0, false);
        refused("a view later than now", x -> of(x.view(1000)), 0);
        refused("a view of no day", x -> of(x.view(-2)), 0);

        section("Promise 26");
        says("false: not 0 .. 200.");
        refused("201 days of damp", x -> of(x.wet(201)), 0);
        refused("-1 day of damp", x -> of(x.wet(-1)), 0);
    }

    private void net() {
        section("Promise 17");
        says("false: there is none such, it has one, or there are 40.");
        refused("a line that has a crack", x -> of(x.crack(false, 0, 0)), 0);
        refusedOf("a crack told behind the view", x -> of(x.crack(false, 2, 1)), 0, false);
        refused("no line", x -> of(x.crack(false, 0, 5)), 0);
        refused("no rail", x -> of(x.crack(true, 5, 0)), 0);
        refused("no row", x -> of(x.crack(true, -1, 0)), 0);
        refusedOf("a 41st crack", x -> of(x.crack(false, 5, 4)), 0, true);

        section("Promise 33");
        says("false: there is none such (in all), or another number.");
        refusedOf("no such crack", x -> of(x.cost(3, 5)), 0, false);
        refusedOf("no such crack", x -> of(x.cost(40, 5)), 0, true);
        refused("crack -1", x -> of(x.cost(-1, 5)), 0);
        refused("cost 0", x -> of(x.cost(0, 0)), 0);
        refused("cost 100", x -> of(x.cost(0, 100)), 0);
    }

    private void lamps() {
        section("Promise 23");
        says("NONE: there are 12, there are no such ROWS, COLUMNS, a is above b, c above d, or other numbers.");
        refusedOf("a 13th picture", x -> x.picture(0, 0, 0, 0, 1, 1), NONE, true);
        refused("no such row", x -> x.picture(0, 6, 0, 0, 1, 1), NONE);
        refusedOf("no such row", x -> x.picture(0, 3, 0, 0, 1, 1), NONE, false);
        refusedOf("no such column", x -> x.picture(0, 0, 0, 4, 1, 1), NONE, false);
        refused("a above b", x -> x.picture(1, 0, 0, 0, 1, 1), NONE);
        refused("c above d", x -> x.picture(0, 0, 1, 0, 1, 1), NONE);
        refused("light 0", x -> x.picture(0, 0, 0, 0, 0, 1), NONE);
        refused("light 10", x -> x.picture(0, 0, 0, 0, 10, 1), NONE);
        refused("hours 0", x -> x.picture(0, 0, 0, 0, 1, 0), NONE);
        refused("hours 1000", x -> x.picture(0, 0, 0, 0, 1, 1000), NONE);
    }

    private void hands() {
        section("Promise 35");
        says("NONE: there are 4, or other numbers.");
        refusedOf("a fifth hand", x -> x.hand(1, 1, 1), NONE, true);
        refused("no films", x -> x.hand(0, 1, 1), NONE);
        refused("1000 films", x -> x.hand(1000, 1, 1), NONE);
        refused("no folds", x -> x.hand(1, 0, 1), NONE);
        refused("1000 folds", x -> x.hand(1, 1000, 1), NONE);
        refused("round 0", x -> x.hand(1, 1, 0), NONE);
        refused("round 10000", x -> x.hand(1, 1, 10000), NONE);

        section("Promise 41");
        says("NONE: there are 12, other numbers, or k is not 0 .. n.");
        refusedOf("a 13th test", x -> x.test(9, 1, 1, 1), NONE, true);
        refused("speed 0", x -> x.test(0, 1, 1, 1), NONE);
        refused("speed 10", x -> x.test(10, 1, 1, 1), NONE);
        refused("no folds", x -> x.test(9, 0, 1, 1), NONE);
        refused("1000000 folds", x -> x.test(9, 1000000, 1, 1), NONE);
        refused("no films", x -> x.test(9, 1, 0, 0), NONE);
        refused("100 films", x -> x.test(9, 1, 100, 1), NONE);
        refused("-1 cracked", x -> x.test(9, 1, 1, -1), NONE);
        refused("two cracked of one", x -> x.test(9, 1, 1, 2), NONE);
    }

    private void images() {
        section("Promise 51");
        says("false for another k.");
        refused("image 3", x -> of(x.image(3)), 0);
        refused("image -1", x -> of(x.image(-1)), 0);

        section("Promise 52");
        says("false if there is none such.");
        refusedOf("image 0, that was not made", x -> of(x.again(0)), 0, false);
        refusedOf("image 2, that was not made", x -> of(x.again(2)), 0, false);
        refused("image 3", x -> of(x.again(3)), 0);
        refused("image -1", x -> of(x.again(-1)), 0);
    }

    /** A text with a FAULT is taken from the tape, and changes nothing but the tape and the FAULT. */
    private void refusedText(String text, boolean film, int fault, int place) {
        for (int full = 0; full < 2; full++) {
            BentScreens x = full == 1 ? brim() : some();
            due(text, film ? Texts.film(x, text) : Texts.rules(x, text), NONE);
            due(text + " fault", x.fault(0), fault);
            due(text + " place", x.fault(1), place);
            due(text + " is taken from the tape", x.end(1), NONE);
            alike(text, Look.besideTape(x), Look.besideTape(full == 1 ? brim() : some()));
        }
    }

    private void texts() {
        section("Promise 4");
        says("NONE: a FAULT.");
        refusedText("layer 9 9 9 hold;net 2 2;@", true, 1, 25);
        refusedText("layer 9 9 9 hold;net 2 7;sheet 5 5;", true, 2, 23);
        refusedText("net 2 2;sheet 5 5;life 3 3;life 3 3;", true, 3, 27);
        refusedText("panel 1 1 9;sheet 5 5;flaw 5 0;net 2 2;", true, 4, 22);

        section("Promise 47");
        says("NONE: a FAULT (told by fault()).");
        refusedText("price 9;bar;price", false, 1, 17);
        refusedText("bar;".repeat(17), false, 3, 64);
        refusedText("price 9;if day=5 and day=5 and day=5 and day=5 and day=5:bar;", false, 3, 51);
    }

    /** Questions of all kinds, answered or not. */
    private static void ask(BentScreens x) {
        for (int n : new int[] {0, 1, 5, 100, -1, MAX, MIN}) {
            x.fault(n);
            x.layer(n, n);
            x.neutral(n);
            x.stretch(n, n);
            x.bears(n, n);
            x.worst(n);
            x.order(n);
            x.tired(n, n);
            x.cracks(n);
            x.fed(n);
            x.cut(n);
            x.inCut(n, n, n);
            x.left(n, n);
            x.damp(n, n);
            x.dark(n, n);
            x.value(n, n, n, n);
            x.panel(n, n);
            x.mend(n);
            x.broken(n, n);
            x.share(n);
            x.promise(n);
            x.lasts(n);
            x.law(n);
            x.span(n, true);
            x.quarrel(n);
            x.next(n);
            x.count(n);
        }
        x.least();
        x.most();
        x.unlike();
        x.darks();
        x.panels();
        x.shift();
        x.kept();
        x.barred();
        x.price();
    }

    private void questions() {
        section("Promise 51");
        says("all that is told (the tape, the FAULT, too), as it is now");
        BentScreens x = some();
        ask(x);
        alike("behind questions", Look.besideTape(x), Look.besideTape(some()));
        x = some();
        int[] once = Look.asked(x);
        alike("asked twice", Look.asked(x), once);
        x = some();
        x.image(0);
        tellOthers(x);
        ask(x);
        x.again(0);
        BentScreens y = some();
        y.image(0);
        alike("behind an image", Look.at(x), Look.at(y));
    }

    private static void tellOthers(BentScreens x) {
        x.film();
        x.rules();
        x.crack(false, 1, 1);
        x.day(9);
        x.view(NONE);
        x.picture(0, 0, 0, 0, 9, 999);
        x.hand(1, 1, 1);
        x.test(9, 300, 1, 1);
        x.wet(0);
    }

    /** What is told is answered at once, whatever was asked before. */
    private void answeredAtOnce() {
        section("Promise 16");
        says("THE VIEW is a DAY (NONE: NOW): true");
        atOnce("view", x -> of(x.view(NONE)));
        atOnce("view", x -> of(x.view(0)));

        section("Promise 17");
        says("A CRACK of a LINE, or (rail) of a RAIL: true");
        atOnce("a line", x -> of(x.view(NONE)) + of(x.crack(false, 1, 0)));
        atOnce("a rail", x -> of(x.view(NONE)) + of(x.crack(true, 0, 1)));

        section("Promise 23");
        says("A PICTURE: how many there are.");
        atOnce("a picture", x -> x.picture(0, 0, 0, 0, 9, 999));

        section("Promise 26");
        says("So many days of DAMP from now on: true");
        atOnce("wet", x -> of(x.wet(9)));

        section("Promise 33");
        says("COST of mending a CRACK from now on: true");
        atOnce("cost", x -> of(x.cost(0, 99)));

        section("Promise 35");
        says("A HAND: its number.");
        atOnce("a hand", x -> x.hand(5, 5, 50));

        section("Promise 41");
        says("A TEST: its number.");
        atOnce("a test", x -> x.test(9, 300, 1, 1));
        atOnce("a test that bars all", x -> x.test(9, 1, 1, 1));

        section("Promise 47");
        says("as RULES from now on: how many LINES.");
        atOnce("rules", x -> Texts.rules(x, "price 3;if cracks=2:bar;"));

        section("Promise 4");
        says("as FILM: how many LINES.");
        atOnce("a film", x -> Texts.film(x, "net 5 4;sheet 2 2;panel 1 1 3;layer 9 8 7 hold;layer 3 9 1 hold;"));
        atOnce("no film", x -> Texts.film(x, ""));
        atOnce("the same sheet without panels", x -> Texts.film(x, "sheet 4 3;net 3 4;"));
    }

    private void atOnce(String what, Call call) {
        BentScreens x = some();
        ask(x);
        BentScreens y = some();
        due(what, call.on(x), call.on(y));
        alike(what + ", behind questions", Look.asked(x), Look.asked(y));
    }

    /** Layers stay as they were told, whatever ORDERS were gone through. */
    private void behindOrder() {
        section("Promise 12");
        says("BEST ORDER, what 0: its LEAST ROUND");
        // As told the second layer has a STRETCH of 56.3 at 200; in the last order no layer has 50.
        String text = "layer 8 19 35 slide;layer 5 12 39 hold;layer 16 19 5 hold;life 50 300;folds 300 200;";
        Call[] calls = {x -> x.layer(1, 4), x -> x.layer(2, 5), x -> x.neutral(1), x -> x.stretch(1, 200),
            x -> of(x.bears(2, 1947)), x -> x.least(), x -> x.worst(1), x -> x.tired(1, 1), x -> x.cracks(1),
            x -> of(x.broken(0, 1)), x -> x.share(0), x -> x.promise(999), x -> x.price()};
        long[] due = {8, 1, 19269, -56346, 1, 1947, 2, 1000, 0, 1, 1000, NONE, 7};
        for (int k = 0; k < calls.length; k++) {
            BentScreens x = film(text);
            x.hand(1, 1, 200);
            Texts.rules(x, "if least=1947:price 7;");
            due("order", x.order(0), 1600);
            due("question " + k + " behind order", calls[k].on(x), due[k]);
        }
    }
}
