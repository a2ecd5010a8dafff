import java.util.Arrays;
import java.util.List;

/** Each sentence of the document's Terms 5 and 8 that names a boundary case: films and rules as texts. */
final class TextEdges extends Edges {
    private static final List<String> LINE_WORDS = List.of("layer", "life", "folds", "panel", "flaw", "sheet", "net");
    private static final String FULL = "layer 2 1 10 hold;layer 2 3 5 slide;layer 4 1 99 hold;life 0 100;life 5 10;"
            + "folds 20 400;sheet 4 3;panel 2 2 10;flaw 1 1;flaw 0 0;net 2 3;";

    TextEdges(Ledger ledger) {
        super(ledger);
    }

    @Override
    void run() {
        section("Terms 5");
        tape();
        blanks();
        tokens();
        filmLines();
        filmNumbers();
        noTextGoesOn();
        numbersAndTooMany();
        flawsBeside();
        elderFilm();
        section("Terms 8");
        signs();
        ruleLines();
        ruleFaults();
        measures();
        barredAndPrice();
        says("The constants: `NONE = -1`: There is none.");
        due("NONE", BentScreens.NONE, -1);
    }

    private static boolean isLetter(int b) {
        return b >= 'a' && b <= 'z';
    }

    private static boolean isDigit(int b) {
        return b >= '0' && b <= '9';
    }

    private static boolean isBlank(int b) {
        return b == 10 || b == 32;
    }

    // ---- Terms 5 ----

    private void tape() {
        says("FILM is a text. THE TAPE has at most 500 bytes.");
        BentScreens x = new BentScreens();
        due("none at first", x.end(1), NONE);
        for (int k = 1; k <= 25; k++) {
            due("twenty more", x.feed(0x20202020, 0x20202020, 0x20202020, 0x20202020, 0x20202020), 20 * k);
        }
        due("no more than 500", x.feed(0x20202020, 0x20202020, 0x20202020, 0x20202020, 0x20202020), NONE);
        due("500", x.end(500), 500);
        taken(" ".repeat(492) + "net 1 1;");
        faulty(" ".repeat(493) + "net 1 1", 1, 500);
        faulty(" ".repeat(499) + "x", 1, 499);
    }

    private void blanks() {
        says("TOKENS, as long as they go, blanks (10, 32) between");
        for (int b = 0; b < 256; b++) {
            String text = "net" + (char) b + "1 1;";
            if (isBlank(b) || b == '0') {
                taken(text);
            } else if (isLetter(b)) {
                faulty(text, 1, 0);
            } else {
                faulty(text, isDigit(b) ? 2 : 1, 3);
            }
            if (isBlank(b)) {
                taken("net 1 1;" + (char) b);
                taken((char) b + "net 1 1;");
            } else {
                faulty("net 1 1;" + (char) b, 1, 8);
            }
        }
        taken("\n \n net \n1  1\n;\n \n");
        taken("layer1 1 1hold;net1 1;");
        taken("");
        taken(" ");
        faulty("netnet 1 1;", 1, 0);
        faulty("net 1 1 1;", 1, 8);
        faulty("net11;", 1, 5);
        faulty("ne t 1 1;", 1, 0);
    }

    private void tokens() {
        says("WORDS, rows of letters a .. z; NUMBERS, 1 to 4 digits; ; one byte.");
        for (int b = 0; b < 256; b++) {
            String first = (char) b + "et 1 1;";
            if (b == 'n') {
                taken(first);
            } else {
                faulty(first, 1, isBlank(b) ? 1 : 0);
            }
            String middle = "net 1" + (char) b + "1;";
            if (isBlank(b)) {
                taken(middle);
            } else {
                faulty(middle, 1, isDigit(b) ? 7 : 5);
            }
            String last = "net 1 1" + (char) b;
            if (b == ';') {
                taken(last);
            } else {
                faulty(last, 1, isBlank(b) || isDigit(b) ? 8 : 7);
            }
        }
        for (String one : new String[] {"1", "01", "001", "0001"}) {
            taken("net " + one + " " + one + ";");
        }
        faulty("net 00001 1;", 1, 4);
        faulty("net 1 00001;", 1, 6);
        taken("folds 9999 9999;");
        faulty("folds 10000 9999;", 1, 6);
        faulty("net 1 1;;", 1, 8);
    }

    private static String joined(String[] tokens, int upTo) {
        return String.join(" ", Arrays.asList(tokens).subList(0, upTo));
    }

    private static boolean fits(String[] line, int at, String token) {
        if (at == 0 || at == line.length) {
            return LINE_WORDS.contains(token);
        }
        if (line[at].equals("hold")) {
            return token.equals("hold") || token.equals("slide");
        }
        return line[at].equals(token);
    }

    private void filmLines() {
        says("TEXT: {LINE}. LINE: ('layer' NUMBER NUMBER NUMBER ('hold' | 'slide') | 'life' NUMBER NUMBER | 'folds' NUMBER"
                + " NUMBER | 'panel' NUMBER NUMBER NUMBER | 'flaw' NUMBER NUMBER | 'sheet' NUMBER NUMBER | 'net' NUMBER"
                + " NUMBER) ';'");
        String[] lines = {"layer 1 1 1 hold ;", "life 1 1 ;", "folds 1 1 ;", "panel 1 1 1 ;", "flaw 1 1 ;", "sheet 1 1 ;",
            "net 1 1 ;"};
        String[] others = {"layer", "life", "folds", "panel", "flaw", "sheet", "net", "hold", "slide", "zz", "bar", "1", ";",
            ":", "<", "@", "12345"};
        for (String text : lines) {
            String[] line = text.split(" ");
            for (int at = 0; at <= line.length; at++) {
                String before = joined(line, at);
                int place = before.length() + (at == 0 ? 0 : 1);
                for (String other : others) {
                    if (!fits(line, at, other)) {
                        faulty(before + (at == 0 ? "" : " ") + other, 1, place);
                    }
                }
                if (at > 0 && at < line.length) {
                    faulty(before, 1, before.length());
                }
            }
            taken(text.startsWith("flaw") ? text + "sheet 2 2;" : text);
        }
        taken("layer 1 1 1 slide ;");
        due("no line", tape("").film(), 0);
        due("as many lines as there may be", tape("net 1 1;sheet 1 1;" + "flaw 0 0;".repeat(20) + "folds 1 1;".repeat(6)
                + "panel 1 1 1;".repeat(4) + "life 1 1;life 2 1;life 3 1;life 4 1;" + "layer 1 1 1 hold;".repeat(6)).film(), 42);
    }

    private void filmNumbers() {
        says("(THICK STIFF MARK; s n; folds ROUND; wide high worth; x y; wide high; ROWS COLUMNS).");
        BentScreens x = film("layer 2 3 4 hold;life 5 6;folds 3 200;panel 2 1 7;flaw 3 0;sheet 4 2;net 5 6;");
        due("THICK", x.layer(0, 0), 2);
        due("STIFF", x.layer(0, 1), 3);
        due("MARK", x.layer(0, 2), 4);
        due("3 folds of a life of 6", x.tired(0, 1), 500);
        due("below s", film("layer 2 3 4 hold;life 5 6;folds 3 201;").tired(0, 1), 0);
        due("a panel", x.value(0, 1, 2, 1), 7);
        due("not turned", x.value(0, 0, 1, 2), 0);
        due("the flaw", x.value(2, 0, 2, 1), 0);
        due("beside the flaw", x.value(2, 1, 2, 1), 7);
        due("wide", x.count(7), 4);
        due("high", x.count(8), 2);
        due("ROWS", x.count(5), 5);
        due("COLUMNS", x.count(6), 6);
    }

    private void noTextGoesOn() {
        says("FAULTS of a FILM, with places (a token's first byte; the end's): 1 the first byte or token with which no text"
                + " goes on (a longer row of digits is no token).");
        faulty("net @ @;", 1, 4);
        faulty("  nets 1 1;", 1, 2);
        faulty("net 1 1", 1, 7);
        faulty("net 1 1 \n ", 1, 10);
        faulty("n", 1, 0);
        faulty("1", 1, 0);
        faulty("net 12345 1;", 1, 4);
        faulty("1".repeat(500), 1, 0);
        faulty("a".repeat(500), 1, 0);
        // It is told before all others, wherever they are.
        faulty("net 0 9;lay", 1, 8);
        faulty("net 1 1;net 1 1;@", 1, 16);
        faulty("flaw 5 5;net", 1, 12);
        faulty("layer 0 0 0 hold;".repeat(7) + ";", 1, 119);
    }

    private void numbersAndTooMany() {
        says("If there is none, the first by place, of one place the least: 2 a NUMBER that can't be (at it)");
        faulty("net 7 7;", 2, 4);
        faulty("net 6 7;", 2, 6);
        faulty("layer 1 1 0 hold;layer 0 1 1 hold;", 2, 10);
        faulty("panel 1 11 1000;", 2, 8);
        faulty("net 7 1;net 1 1;", 2, 4);
        faulty("life 7 0;life 7 1;", 2, 7);
        faulty("flaw 5 5;net 7 7;", 2, 13);

        says("3 one too many of its sort in this text, a second sheet or net, or a life with an s that an earlier line told"
                + " (at its word).");
        String[] sorts = {"layer 1 1 1 hold;", "folds 1 1;", "panel 1 1 1;", "flaw 0 0;"};
        int[] most = {6, 6, 4, 20};
        for (int k = 0; k < sorts.length; k++) {
            String all = sorts[k].repeat(most[k]);
            taken(all);
            faulty(all + "net 1 1;" + sorts[k], 3, all.length() + 8);
            faulty(all + sorts[k] + sorts[k], 3, all.length());
            BentScreens x = film(all);
            due("not too many of another text", Texts.film(x, all), most[k]);
        }
        faulty("layer 1 1 1 hold;".repeat(6) + " layer 0 0 0 hold;", 3, 103);
        faulty("sheet 1 1;net 1 1;sheet 1 1;", 3, 18);
        faulty("net 1 1;sheet 1 1;net 1 1;", 3, 18);
        faulty("net 1 1;net 7 1;", 3, 8);
        faulty("sheet 9 9;sheet 99 1;", 3, 10);
        faulty("life 0 1;life 0 1;", 3, 9);
        faulty("life 7 1;life 8 1;life 9 1;life 7 0;", 3, 27);
        faulty("life 1 1;life 2 1;life 3 1;life 4 1;life 5 1;", 3, 36);
        faulty("flaw 5 5;net 1 1;net 1 1;", 3, 17);
        BentScreens x = film("net 2 2;sheet 2 2;life 7 1;");
        due("told by another text", Texts.film(x, "net 2 2;sheet 2 2;life 7 1;"), 3);
    }

    private void flawsBeside() {
        says("If there is none of these: 4 the first flaw that is not on the SHEET as this text tells it anywhere (1, 1 if it"
                + " does not) (at its word).");
        taken("flaw 0 0;");
        faulty("flaw 1 0;", 4, 0);
        faulty(" flaw 0 1;", 4, 1);
        taken("sheet 3 2;flaw 2 1;");
        taken("flaw 2 1;sheet 3 2;");
        faulty("sheet 3 2;flaw 3 1;", 4, 10);
        faulty("sheet 3 2;flaw 2 2;", 4, 10);
        faulty("flaw 2 1;flaw 1 2;flaw 3 0;sheet 3 2;", 4, 9);
        faulty(" flaw 0 1;layer 1 1 1 hold;life 1 1;folds 1 1;panel 1 1 1;", 4, 1);
        faulty("layer 1 1 1 hold;life 1 1;flaw 0 1;", 4, 26);
        faulty("flaw 9 9;sheet 9 10;", 4, 0);
        faulty("flaw 9 9;sheet 10 9;", 4, 0);
        taken("flaw 9 9;sheet 10 10;");
        BentScreens x = film("sheet 10 10;");
        due("an elder sheet counts for nothing", Texts.film(x, "flaw 5 5;"), NONE);
        due("an elder sheet counts for nothing", x.fault(0), 4);
        due("the elder sheet stays", x.count(7), 10);
    }

    private void elderFilm() {
        says("A text without a FAULT is the film from now on: what was told by an elder one is gone (LAYERS, LIVES, FOLDS,"
                + " PANELS, FLAWS, SHEET; the NET is 1, 1, if it is not told; CRACKS and PICTURES are gone, too; HANDS, TESTS,"
                + " RULES stay).");
        int[] gone = {0, 0, 0, 0, 0, 1, 1, 1, 1, 0, 0, 3, 2, 4, 0, 1, 1, 2, 0};
        BentScreens x = film(FULL);
        tellAll(x);
        int[] told = {3, 2, 1, 1, 2, 2, 3, 4, 3, 1, 1, 3, 2, 4, 11, 1, 1, 2, 0};
        dueCounts("told", x, told);
        due("no lines", Texts.film(x, ""), 0);
        dueCounts("gone", x, gone);
        due("no layer", x.layer(0, 0), NONE);
        due("no panel", x.value(0, 0, 1, 1), 0);
        due("a lamp like new", x.left(0, 0), 1000);
        due("no picture", x.lasts(0), NONE);
        due("rules stay", x.price(), 1);
        due("a hand stays", x.hand(1, 1, 1), 1);
        due("a test stays", x.kept(), 208);
        // The same film: all but what it tells itself is gone all the same.
        x = film(FULL);
        x.crack(false, 0, 0);
        x.cost(0, 9);
        x.picture(0, 1, 0, 2, 9, 999);
        due("once more", Texts.film(x, FULL), 11);
        due("no cracks", x.count(9), 0);
        due("all lead", x.most(), 2);
        due("no pictures", x.left(0, 0), 1000);
        x.crack(false, 1, 0);
        due("a new crack costs 1", x.mend(0), 1);
    }

    private static void tellAll(BentScreens x) {
        x.day(3);
        x.view(2);
        x.crack(false, 0, 0);
        x.picture(0, 0, 0, 0, 9, 999);
        x.wet(4);
        x.hand(1, 1, 1);
        x.test(9, 100, 1, 0);
        Texts.rules(x, "price 1;if day=9:bar;");
    }

    private void dueCounts(String what, BentScreens x, int[] counts) {
        for (int k = 0; k < counts.length; k++) {
            due(what + ": count " + k, x.count(k), counts[k]);
        }
    }

    // ---- Terms 8 ----

    private void signs() {
        says("RULES are a text. TOKENS as those of a FILM, and signs : < > = one byte each.");
        for (int b = 0; b < 256; b++) {
            String sign = "if rows" + (char) b + "1:bar;";
            if (b == '<' || b == '>' || b == '=') {
                takenRules(sign);
            } else {
                faultyRules(sign, 1, isBlank(b) ? 8 : isLetter(b) ? 3 : 7);
            }
            String colon = "if whole" + (char) b + "bar;";
            if (b == ':') {
                takenRules(colon);
            } else {
                faultyRules(colon, 1, isBlank(b) ? 9 : isLetter(b) ? 3 : 8);
            }
            if (isBlank(b)) {
                takenRules((char) b + "price" + (char) b + "1" + (char) b + ";" + (char) b);
            } else {
                faultyRules("bar;" + (char) b, 1, 4);
            }
        }
        takenRules("");
        takenRules(" \n");
        takenRules("if rows < 1 and day\n=\n2 : bar ;");
        takenRules("if rows<1:bar;");
        faultyRules("ifrows<1:bar;", 1, 0);
        faultyRules("if rows<=1:bar;", 1, 8);
        faultyRules("if rows==1:bar;", 1, 8);
        faultyRules("if whole::bar;", 1, 9);
        faultyRules("bar;;", 1, 4);
        takenRules("price 0;price 0000;price 9999;less 0;less 9999;");
        faultyRules("price 10000;", 1, 6);
        faultyRules("less 00000;", 1, 5);
        takenRules("if day=0:bar;if day=9999:bar;");
        faultyRules("if day=10000:bar;", 1, 7);
    }

    private void ruleLines() {
        says("TEXT: {LINE}. LINE: ['if' TEST {'and' TEST} ':'] ('bar' | ('price' | 'less') NUMBER) ';'. TEST: ['not']"
                + " (('slides' | 'whole') | ('layers' | 'least' | 'rows' | 'fed' | 'darks' | 'worth' | 'cracks' | 'kept' |"
                + " 'day') ('<' | '>' | '=') NUMBER).");
        String facts = "slides whole layers least rows fed darks worth cracks kept day";
        String[][] goesOn = {
            {"", "if bar price less"}, {"if", "not " + facts}, {"if not", facts}, {"if whole", "and :"},
            {"if slides", "and :"}, {"if not whole", "and :"}, {"if rows", "< > ="}, {"if not day", "< > ="},
            {"if rows <", "7"}, {"if rows >", "7"}, {"if rows =", "7"}, {"if rows = 7", "and :"},
            {"if whole and", "not " + facts}, {"if whole and not", facts}, {"if whole and slides", "and :"},
            {"if whole and day < 7", "and :"}, {"if whole :", "bar price less"}, {"if whole : bar", ";"},
            {"if whole : price", "7"}, {"if whole : less 7", ";"}, {"bar", ";"}, {"price", "7"}, {"less", "7"},
            {"price 7", ";"}, {"less 7", ";"}, {"bar ;", "if bar price less"}, {"if whole : bar ;", "if bar price less"}};
        String all = "if not and bar price less " + facts + " < > = : ; 7 zz net 12345 @";
        for (String[] step : goesOn) {
            String before = step[0].isEmpty() ? "" : step[0] + " ";
            List<String> fine = List.of(step[1].split(" "));
            for (String token : all.split(" ")) {
                if (!fine.contains(token)) {
                    faultyRules(before + token, 1, before.length());
                } else if (!(before + token).endsWith(";")) {
                    // It goes on, so that the fault is but the end.
                    faultyRules(before + token, 1, before.length() + token.length());
                }
            }
        }
        for (String fact : facts.split(" ")) {
            String test = fact.equals("slides") || fact.equals("whole") ? fact : fact + ">0";
            takenRules("if " + test + ":bar;if not " + test + ":price 1;if whole and " + test + ":less 1;");
        }
    }

    private void ruleFaults() {
        says("FAULTS of RULES: 1 as of a FILM. If there is none: 3 one too many, at its first token: a 17th LINE, a 5th TEST of"
                + " a LINE.");
        takenRules("bar;".repeat(16));
        faultyRules("bar;".repeat(17), 3, 64);
        faultyRules("bar;".repeat(16) + " price 1;bar;", 3, 65);
        faultyRules("bar;".repeat(16) + "if whole:bar;", 3, 64);
        String four = "if whole and whole and not slides and day<1";
        takenRules(four + ":bar;");
        takenRules((four + ":bar;").repeat(9));
        faultyRules(four + " and whole:bar;", 3, four.length() + 5);
        faultyRules(four + " and  not whole:bar;", 3, four.length() + 6);
        faultyRules(four + " and day<1 and day<2:bar;", 3, four.length() + 5);
        faultyRules("bar;" + four + " and day<1:bar;", 3, four.length() + 9);
        // The first by place.
        faultyRules("bar;".repeat(16) + four + " and whole:bar;", 3, 64);
        faultyRules(four + " and whole:bar;" + "bar;".repeat(20), 3, four.length() + 5);
        // 1 before 3, wherever it is.
        faultyRules("bar;".repeat(17) + "ba", 1, 68);
        faultyRules(four + " and whole:", 1, four.length() + 11);
        faultyRules("bar", 1, 3);
        faultyRules("bar \n", 1, 5);
    }

    private static boolean holds(BentScreens x, String test) {
        if (Texts.rules(x, "if " + test + ":price 1;") != 1) {
            throw new IllegalStateException(test);
        }
        return x.price() == 1;
    }

    /** A measure is just this number. */
    private void measures(BentScreens x, String measure, int number) {
        due(measure + "=" + number, holds(x, measure + "=" + number), true);
        due("not " + measure + "=" + number, holds(x, "not " + measure + "=" + number), false);
        due(measure + "<" + number, holds(x, measure + "<" + number), false);
        due(measure + ">" + number, holds(x, measure + ">" + number), false);
        due("not " + measure + "<" + number, holds(x, "not " + measure + "<" + number), true);
        if (number < 9999) {
            due(measure + "<" + (number + 1), holds(x, measure + "<" + (number + 1)), true);
            due(measure + "=" + (number + 1), holds(x, measure + "=" + (number + 1)), false);
        }
        if (number > 0) {
            due(measure + ">" + (number - 1), holds(x, measure + ">" + (number - 1)), true);
            due(measure + "=" + (number - 1), holds(x, measure + "=" + (number - 1)), false);
        }
    }

    private void measures() {
        says("(slides: GLUE of some LAYER but the last one slides; whole: no CRACK by THE VIEW; layers: how many;");
        due("no layers", holds(film(""), "slides"), false);
        due("the last one alone", holds(film("layer 1 1 1 slide;"), "slides"), false);
        due("the last one", holds(film("layer 1 1 1 hold;layer 1 1 1 slide;"), "slides"), false);
        due("the first one", holds(film("layer 1 1 1 slide;layer 1 1 1 hold;"), "slides"), true);
        due("one before the last", holds(film("layer 1 1 1 hold;layer 1 1 1 slide;layer 1 1 1 hold;"), "slides"), true);
        BentScreens x = film("net 1 2;");
        due("no crack", holds(x, "whole"), true);
        x.day(1);
        x.crack(false, 0, 0);
        due("a crack", holds(x, "whole"), false);
        x.view(0);
        due("no crack by then", holds(x, "whole"), true);
        measures(film(""), "layers", 0);
        measures(film("layer 1 1 1 hold;".repeat(6)), "layers", 6);

        says("least: LEAST ROUND, 0 without LAYERS; rows; fed: MOST; darks: how many are DARK;");
        measures(film(""), "least", 0);
        measures(film("layer 2 1 1 hold;"), "least", 1000);
        x = film("layer 99 1 1 hold;");
        due("10000 is above 9999", holds(x, "least>9999"), true);
        due("10000 is not 9999", holds(x, "least=9999"), false);
        measures(film(""), "rows", 1);
        measures(film("net 6 1;"), "rows", 6);
        measures(film("net 6 1;"), "fed", 6);
        x = film("net 1 2;");
        x.crack(false, 0, 0);
        measures(x, "fed", 0);
        measures(x, "darks", 2);
        measures(x, "rows", 1);
        measures(film(""), "darks", 0);
        x = film("net 2 3;");
        x.crack(false, 1, 0);
        measures(x, "rows", 2);
        measures(x, "fed", 1);
        x = film("net 2 3;");
        x.wet(200);
        measures(x, "darks", 6);
        x = film("net 2 3;");
        x.picture(0, 0, 0, 1, 9, 999);
        x.picture(0, 0, 0, 1, 9, 999);
        measures(x, "darks", 2);

        says("worth: WORTH of the SHEET, 9999 at most; cracks: how many by THE VIEW; kept: KEPT LAWS; day: of now.)");
        measures(film(""), "worth", 0);
        measures(film("sheet 10 1;panel 1 1 999;panel 10 1 1;"), "worth", 9990);
        measures(film("sheet 10 1;panel 1 1 998;panel 2 1 999;"), "worth", 9980);
        x = film("sheet 10 10;panel 1 1 999;");
        due("no more than 9999", holds(x, "worth=9999"), true);
        due("no more than 9999", holds(x, "worth>9999"), false);
        due("the sheet itself is worth more", x.value(0, 0, 10, 10), 99900);
        x = film("net 2 2;");
        measures(x, "cracks", 0);
        x.crack(true, 0, 0);
        x.day(999);
        x.crack(true, 0, 1);
        measures(x, "cracks", 2);
        x.view(998);
        measures(x, "cracks", 1);
        measures(x, "day", 999);
        measures(new BentScreens(), "day", 0);
        measures(new BentScreens(), "kept", 240);
        x.test(9, 1, 1, 1);
        measures(x, "kept", 0);
    }

    private void barredAndPrice() {
        says("The film is BARRED by the first LINE bar whose TESTS all hold.");
        BentScreens x = new BentScreens();
        due("no rules", x.barred(), NONE);
        String[] texts = {"bar;", "price 1;bar;bar;", "if day>0:bar;less 1;bar;", "if day=0 and rows=2:bar;if day=0 and rows=1:bar;",
            "if day>0:bar;", "price 1;less 1;"};
        int[] bars = {0, 1, 2, 1, NONE, NONE};
        for (int k = 0; k < texts.length; k++) {
            Texts.rules(x, texts[k]);
            due(texts[k], x.barred(), bars[k]);
        }
        Texts.rules(x, "price 1;".repeat(15) + "bar;");
        due("the 16th", x.barred(), 15);
        Texts.rules(x, "if rows=1 and rows=1 and rows=1 and rows=2:bar;if rows=1 and rows=1 and rows=1 and rows=1:bar;");
        due("four tests", x.barred(), 1);

        says("PRICE: all NUMBERS of price together less all of less, of LINES whose TESTS all hold, 0 at least.");
        due("bar is no price", x.price(), 0);
        Texts.rules(x, "less 31;price 30;price 2;");
        due("together", x.price(), 1);
        Texts.rules(x, "price 30;less 30;");
        due("just 0", x.price(), 0);
        Texts.rules(x, "price 30;less 31;");
        due("0 at least", x.price(), 0);
        Texts.rules(x, "less 31;price 30;if day>0:price 50;if day=0:price 3;if day>0:less 1;");
        due("whose tests hold", x.price(), 2);
        Texts.rules(x, "price 9999;".repeat(16));
        due("as much as can be", x.price(), 159984);
        Texts.rules(x, "less 9999;".repeat(16));
        due("as little as can be", x.price(), 0);
        Texts.rules(x, "");
        due("no rules", x.price(), 0);
    }
}
