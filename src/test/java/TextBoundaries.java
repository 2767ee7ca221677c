/** The boundaries of the tape and of the text of RULES: promises 2 to 6 and their terms. */
public final class TextBoundaries extends Sentences {
    private static final String[] WORDS = {"row", "again", "far", "fair", "won", "lost", "up", "down", "of"};
    private static final int[] USUAL = {3, 1, 60, 5, 2, 1, 80, 30, 4};
    private static final int BLANK = 0x20202020;

    public static void main(String[] args) {
        new TextBoundaries().report();
    }

    @Override
    void testAll() {
        testTape();
        testReading();
        testTokens();
        testBounds();
        testFaults();
    }

    private void testTape() {
        sentence("Twenty bytes come behind the tape", this::twentyBytes);
        sentence("of each number the highest first", this::highestFirst);
        sentence("how many it has", this::howManyItHas);
        sentence("NONE, and none come, if it would have more than 180", this::fullTape);
        sentence("The tape has its first n bytes alone: true", this::firstBytesAlone);
        sentence("false, if it has not so many", this::notSoMany);
        sentence("or n is below 0", this::belowZero);
    }

    private void testReading() {
        sentence("The tape (empty then) are the RULES from now on", this::tapeBecomesRules);
        sentence("how many were told", this::howManyTold);
        sentence("-1 less the place of a FAULT", this::placeOfFault);
        sentence("they stay", this::rulesStay);
        sentence("The kind of the FAULT of the latest rules()", this::kindOfLatest);
        sentence("0 without one and ahead of any", this::noFault);
        sentence("RULE k now (0 to 8: row, again, far, fair, won, lost, up, down, of)", this::ruleNow);
        sentence("NONE for another k", this::anotherRule);
    }

    private void testTokens() {
        sentence("RULES are a text of at most 160 bytes", this::atMost160);
        sentence("with blanks (32, 10) between them or not", this::blanksBetween);
        sentence("WORDS: small letters", this::smallLetters);
        sentence("NUMBERS: 1 to 3 digits", this::oneToThreeDigits);
        sentence("A WORD, NUMBER goes on as long as small letters and digits do", this::goesOn);
        sentence("what is not as told is no TOKEN", this::noToken);
        sentence("TEXT: { RULE }", this::anyNumberOfRules);
        sentence("RULE: one of these WORDS, a NUMBER, ;", this::wholeRule);
    }

    private void testBounds() {
        sentence("row (1 to 9; 3 without it)", () -> bounds(0, 1, 9));
        sentence("again (0 to 9; 1)", () -> bounds(1, 0, 9));
        sentence("far (0 to 200; 60)", () -> bounds(2, 0, 200));
        sentence("fair (0 to 50; 5)", () -> bounds(3, 0, 50));
        sentence("won (0 to 9; 2)", () -> bounds(4, 0, 9));
        sentence("lost (0 to 9; 1)", () -> bounds(5, 0, 9));
        sentence("up (1 to 101; 80)", () -> bounds(6, 1, 101));
        sentence("down (0 to 100; 30)", () -> bounds(7, 0, 100));
        sentence("of (1 to 20; 4)", () -> bounds(8, 1, 20));
        sentence("each once at most", this::eachOnce);
    }

    private void testFaults() {
        sentence("the first along the text", this::firstAlongTheText);
        sentence("of one TOKEN the least", this::leastOfOneToken);
        sentence("1 no TOKEN, or one that can't come (at it", this::cannotCome);
        sentence("the end: how many bytes there are", this::theEnd);
        sentence("160, if there are more and no FAULT is ahead", this::moreThan160);
        sentence("TOKENS that begin ahead of it are read whole", this::readWhole);
        sentence("2 a NUMBER that is not as told (at it)", this::numberNotAsTold);
        sentence("3 a RULE told twice (at its WORD)", this::toldTwice);
    }

    private static int feedBlanks(WicketBoard x) {
        return x.feed(BLANK, BLANK, BLANK, BLANK, BLANK);
    }

    private static WicketBoard tapeOf(int bytes) {
        WicketBoard x = new WicketBoard();
        put(x, blanks(bytes));
        return x;
    }

    private void twentyBytes() {
        WicketBoard x = new WicketBoard();
        due("feed", feedBlanks(x), 20);
        due("end(20)", x.end(20), true);
        due("end(21)", x.end(21), false);
        x.end(3);
        due("feed behind 3", feedBlanks(x), 23);
        WicketBoard y = new WicketBoard();
        put(y, "row 5;              ");
        put(y, "far 7");
        put(y, ";");
        due("rules() of what came in three feeds", y.rules(), 2);
        due("rule(0)", y.rule(0), 5);
        due("rule(2)", y.rule(2), 7);
    }

    /** One sign that is no TOKEN among blanks: its place is the FAULT's. */
    private void highestFirst() {
        for (int place = 0; place < 20; place++) {
            int[] row = {BLANK, BLANK, BLANK, BLANK, BLANK};
            int shift = 24 - 8 * (place % 4);
            row[place / 4] = BLANK & ~(255 << shift) | 200 << shift;
            WicketBoard x = new WicketBoard();
            x.feed(row[0], row[1], row[2], row[3], row[4]);
            due("rules() with a sign at " + place, x.rules(), -1 - place);
        }
        WicketBoard x = new WicketBoard();
        x.feed('r' << 24 | 'o' << 16 | 'w' << 8 | ' ', '8' << 24 | ';' << 16 | 0x2020, BLANK, BLANK, BLANK);
        due("rules()", x.rules(), 1);
        due("rule(0)", x.rule(0), 8);
        x.feed(BLANK, MIN, MAX, -1, 0);
        due("rules() of MIN behind four blanks", x.rules(), -5);
        x.feed(-1, BLANK, BLANK, BLANK, BLANK);
        due("rules() of -1", x.rules(), -1);
    }

    private void howManyItHas() {
        WicketBoard x = new WicketBoard();
        for (int times = 1; times <= 9; times++) {
            due("feed " + times, feedBlanks(x), 20 * times);
            due("count(5)", x.count(5), 20 * times);
        }
    }

    private void fullTape() {
        due("feed behind 159", feedBlanks(tapeOf(159)), 179);
        due("feed behind 160", feedBlanks(tapeOf(160)), 180);
        WicketBoard x = tapeOf(161);
        due("feed behind 161", x.feed(-1, -1, -1, -1, -1), NONE);
        due("count(5)", x.count(5), 161);
        due("end(162)", x.end(162), false);
        x.end(160);
        due("rules() of the blanks that were there", x.rules(), 0);
        WicketBoard full = tapeOf(180);
        due("feed behind 180", full.feed(-1, -1, -1, -1, -1), NONE);
        due("feed behind 180 again", full.feed(-1, -1, -1, -1, -1), NONE);
        due("count(5)", full.count(5), 180);
        full.rules();
        due("feed behind rules()", feedBlanks(full), 20);
    }

    private void firstBytesAlone() {
        WicketBoard x = new WicketBoard();
        put(x, "row 5;far 7;");
        due("end(6)", x.end(6), true);
        due("count(5)", x.count(5), 6);
        put(x, "up 9;");
        due("rules()", x.rules(), 2);
        dueRules(x, 5, 1, 60, 5, 2, 1, 9, 30, 4);
        WicketBoard y = new WicketBoard();
        put(y, "row 5;");
        due("end(5)", y.end(5), true);
        due("rules() of five bytes", y.rules(), -6);
    }

    private void notSoMany() {
        WicketBoard x = new WicketBoard();
        due("end(1) of none", x.end(1), false);
        due("end(0) of none", x.end(0), true);
        feedBlanks(x);
        due("end(MAX)", x.end(MAX), false);
        due("end(21) of 20", x.end(21), false);
        due("count(5)", x.count(5), 20);
        due("end(20) of 20", x.end(20), true);
        due("count(5)", x.count(5), 20);
        due("end(19) of 20", x.end(19), true);
        due("count(5)", x.count(5), 19);
        due("end(20) of 19", x.end(20), false);
        due("count(5)", x.count(5), 19);
        WicketBoard full = tapeOf(180);
        due("end(181) of 180", full.end(181), false);
        due("end(180) of 180", full.end(180), true);
    }

    private void belowZero() {
        WicketBoard x = new WicketBoard();
        due("end(-1) of none", x.end(-1), false);
        feedBlanks(x);
        due("end(-1)", x.end(-1), false);
        due("end(MIN)", x.end(MIN), false);
        due("count(5)", x.count(5), 20);
        due("end(1)", x.end(1), true);
        due("count(5)", x.count(5), 1);
        due("end(0)", x.end(0), true);
        due("count(5)", x.count(5), 0);
    }

    private void tapeBecomesRules() {
        WicketBoard x = new WicketBoard();
        put(x, "row 9;again 8;far 7;fair 6;won 5;lost 4;up 3;down 2;of 1;");
        dueRules(x, USUAL);
        due("rules()", x.rules(), 9);
        dueRules(x, 9, 8, 7, 6, 5, 4, 3, 2, 1);
        due("count(5)", x.count(5), 0);
        due("end(1)", x.end(1), false);
        due("rules() of the empty tape", x.rules(), 0);
        dueRules(x, USUAL);
        due("rules() with a fault", say(x, "row 5;x"), -7);
        due("count(5) behind a fault", x.count(5), 0);
        due("rules() behind a fault", x.rules(), 0);
        x.next();
        due("rules()", say(x, "of 9;"), 1);
        x.next();
        due("rule(8) in a later week", x.rule(8), 9);
    }

    private void howManyTold() {
        StringBuilder text = new StringBuilder();
        for (int k = 0; k < 9; k++) {
            dueTold(text.toString(), k);
            text.append(WORDS[k]).append(" 1;");
        }
        dueTold(text.toString(), 9);
    }

    private void placeOfFault() {
        for (int place : new int[] {0, 1, 2, 19, 20, 21, 158, 159}) {
            dueFault(blanks(place) + "?", place, 1);
        }
        dueFault(blanks(161), 160, 1);
    }

    private void rulesStay() {
        WicketBoard x = boardWith("row 9;again 8;far 7;fair 6;won 5;lost 4;up 3;down 2;of 1;");
        String[] faulty = {
            "row", "row 1;far 9;up 0;", "again 1;again 2;", "of 2;" + blanks(156), "fair 9", "won 1;lost 2;;",
        };
        for (String text : faulty) {
            due("rules() of '" + text + "' is below 0", say(x, text) < 0, true);
            dueRules(x, 9, 8, 7, 6, 5, 4, 3, 2, 1);
        }
        say(x, "of 2;" + blanks(155));
        dueRules(x, 3, 1, 60, 5, 2, 1, 80, 30, 2);
    }

    private void kindOfLatest() {
        WicketBoard x = new WicketBoard();
        say(x, "row");
        due("fault()", x.fault(), 1);
        say(x, "row 0;");
        due("fault()", x.fault(), 2);
        say(x, "row 1;row 1;");
        due("fault()", x.fault(), 3);
        put(x, "row 0;");
        due("fault() ahead of rules()", x.fault(), 3);
        due("fault() again", x.fault(), 3);
        x.next();
        due("fault() in the next week", x.fault(), 3);
        x.rules();
        due("fault()", x.fault(), 2);
        say(x, "?");
        due("fault()", x.fault(), 1);
    }

    private void noFault() {
        WicketBoard x = new WicketBoard();
        due("fault() ahead of any", x.fault(), 0);
        put(x, "row 0;");
        due("fault() with a wrong tape", x.fault(), 0);
        x.rules();
        due("fault()", x.fault(), 2);
        say(x, "row 1;");
        due("fault() without one", x.fault(), 0);
        say(x, "row 1;row 1;");
        due("fault()", x.fault(), 3);
        x.rules();
        due("fault() of the empty tape", x.fault(), 0);
    }

    private void ruleNow() {
        WicketBoard x = new WicketBoard();
        dueRules(x, USUAL);
        say(x, "of 11;down 12;up 13;lost 4;won 5;fair 16;far 17;again 8;row 9;");
        dueRules(x, 9, 8, 17, 16, 5, 4, 13, 12, 11);
    }

    private void anotherRule() {
        WicketBoard x = boardWith("row 9;of 9;");
        for (int k : new int[] {MIN, -9, -2, -1, 9, 10, 18, MAX}) {
            due("rule(" + k + ")", x.rule(k), NONE);
        }
        due("rule(0)", x.rule(0), 9);
        due("rule(8)", x.rule(8), 9);
    }

    private void atMost160() {
        dueTold("row 5;" + blanks(153), 1);
        dueTold("row 5;" + blanks(154), 1);
        dueFault("row 5;" + blanks(155), 160, 1);
        dueTold(blanks(153) + "row 5;", 1);
        dueTold(blanks(154) + "row 5;", 1);
        dueFault(blanks(155) + "row 5;", 160, 1);
        dueTold("\n".repeat(160), 0);
        dueFault("\n".repeat(161), 160, 1);
        dueFault("\n".repeat(180), 160, 1);
    }

    private static boolean isBlank(int sign) {
        return sign == 32 || sign == 10;
    }

    private static boolean goesOn(int sign) {
        return sign >= 'a' && sign <= 'z' || sign >= '0' && sign <= '9';
    }

    /** Each of the 256 signs as the one between a WORD and a NUMBER, and between two RULES. */
    private void blanksBetween() {
        for (int sign = 0; sign < 256; sign++) {
            String word = "row" + (char) sign + "5;";
            String rule = "row 5;" + (char) sign + "far 6;";
            if (isBlank(sign)) {
                dueTold(word, 1);
                dueTold(rule, 2);
            } else {
                dueFault(word, goesOn(sign) ? 0 : 3, 1);
                dueFault(rule, 6, 1);
            }
        }
        dueTold("row 5;far 6;", 2);
        dueTold(" \n row \n\n  5 \n ; \n far\n6\n;\n ", 2);
        dueTold("row 5 ;far 6\n;", 2);
    }

    private void smallLetters() {
        for (int sign = 0; sign < 256; sign++) {
            String text = "row" + (char) sign;
            dueFault(text, goesOn(sign) ? 0 : isBlank(sign) ? 4 : 3, 1);
        }
        for (String word : WORDS) {
            dueTold(word + " 1;", 1);
            dueFault(word.toUpperCase() + " 1;", 0, 1);
            int last = word.length() - 1;
            dueFault(word.substring(0, last) + word.substring(last).toUpperCase() + " 1;", 0, 1);
        }
    }

    private void oneToThreeDigits() {
        String[] good = {"0", "5", "00", "05", "15", "000", "005", "015", "115"};
        int[] values = {0, 5, 0, 5, 15, 0, 5, 15, 115};
        for (int i = 0; i < good.length; i++) {
            WicketBoard x = new WicketBoard();
            due("rules() of far " + good[i], say(x, "far " + good[i] + ";"), 1);
            due("rule(2)", x.rule(2), values[i]);
        }
        for (String bad : new String[] {"0000", "0005", "1150", "9999", "00000", "4294967297", "18446744073709551617"}) {
            dueFault("far " + bad + ";", 4, 1);
        }
        dueFault("far ;", 4, 1);
        for (int sign = 0; sign < 256; sign++) {
            String text = "far 1" + (char) sign + ";";
            if (sign >= '0' && sign <= '9') {
                WicketBoard x = new WicketBoard();
                due("rules() of '" + text + "'", say(x, text), 1);
                due("rule(2)", x.rule(2), 10 + sign - '0');
            } else if (isBlank(sign)) {
                dueTold(text, 1);
            } else {
                dueFault(text, goesOn(sign) ? 4 : sign == ';' ? 6 : 5, 1);
            }
        }
    }

    private void goesOn() {
        dueFault("row5;", 0, 1);
        dueFault("row5 5;", 0, 1);
        dueFault("rowa 5;", 0, 1);
        dueFault("rowz 5;", 0, 1);
        dueFault("row0 5;", 0, 1);
        dueFault("row9 5;", 0, 1);
        dueFault("rowfar 5;", 0, 1);
        dueFault("row 5a;", 4, 1);
        dueFault("row 5z;", 4, 1);
        dueFault("far 55a;", 4, 1);
        dueFault("far 155a;", 4, 1);
        dueFault("row 5;far6;", 6, 1);
        dueFault("row 5far 6;", 4, 1);
        dueFault("row`5;", 3, 1);
        dueFault("row{5;", 3, 1);
        dueFault("row/5;", 3, 1);
        dueFault("row:5;", 3, 1);
        dueFault("row 5`;", 5, 1);
        dueFault("row 5{;", 5, 1);
        dueFault("row 5/;", 5, 1);
        dueFault("row 5:;", 5, 1);
        dueTold("row 5;far 6;", 2);
    }

    private void noToken() {
        dueFault("0row 5;", 0, 1);
        dueFault("5row", 0, 1);
        dueFault("row 0a;", 4, 1);
        dueFault("row a0;", 4, 1);
        dueFault("row 5;.", 6, 1);
        dueFault("row -1;", 4, 1);
        dueFault("row +1;", 4, 1);
        dueFault("row 1.0;", 5, 1);
        dueFault("row 1,", 5, 1);
        dueFault("{row 1;}", 0, 1);
        dueFault("" + (char) 0, 0, 1);
        dueFault("row 1;" + (char) 0, 6, 1);
        dueFault("row 1;" + (char) 255, 6, 1);
        dueFault("row 1;" + (char) ('f' + 128) + "ar 1;", 6, 1);
        dueFault("row " + (char) ('1' + 128) + ";", 4, 1);
        dueFault("row 1" + (char) (';' + 128), 5, 1);
        dueFault("row" + (char) (' ' + 128) + "1;", 3, 1);
    }

    private void anyNumberOfRules() {
        dueTold("", 0);
        dueTold(" ", 0);
        dueTold("\n", 0);
        dueTold("of 1;", 1);
        dueTold("of 1;row 1;", 2);
        dueTold("of 1;down 1;up 1;lost 1;won 1;fair 1;far 1;again 1;row 1;", 9);
        dueFault(";", 0, 1);
        dueFault("of 1;;", 5, 1);
    }

    private void wholeRule() {
        for (String word : WORDS) {
            int behind = word.length();
            dueTold(word + " 1;", 1);
            dueFault(word + ";", behind, 1);
            dueFault(word + " 1", behind + 2, 1);
            dueFault(word, behind, 1);
            dueFault(word.substring(1) + " 1;", 0, 1);
            dueFault(word + "s 1;", 0, 1);
            dueFault("s" + word + " 1;", 0, 1);
        }
        for (String word : new String[] {"r", "ro", "wor", "agai", "fa", "fai", "wo", "los", "u", "dow", "o", "rox"}) {
            dueFault(word + " 1;", 0, 1);
        }
        dueFault("1;", 0, 1);
        dueFault("1 row;", 0, 1);
    }

    private void bounds(int k, int least, int most) {
        int at = WORDS[k].length() + 1;
        for (int n : new int[] {least, least + 1, most - 1, most}) {
            WicketBoard x = new WicketBoard();
            due(WORDS[k] + " " + n, say(x, WORDS[k] + " " + n + ";"), 1);
            due("rule(" + k + ")", x.rule(k), n);
        }
        for (int n : new int[] {most + 1, most + 2, 256, 999}) {
            dueFault(WORDS[k] + " " + n + ";", at, 2);
        }
        for (int n = 0; n < least; n++) {
            dueFault(WORDS[k] + " " + n + ";", at, 2);
            dueFault(WORDS[k] + " 00" + n + ";", at, 2);
        }
        WicketBoard x = new WicketBoard();
        due("rule(" + k + ") of a new board", x.rule(k), USUAL[k]);
        say(x, WORDS[k] + " " + least + ";");
        say(x, WORDS[(k + 1) % 9] + " 1;");
        due("rule(" + k + ") without it", x.rule(k), USUAL[k]);
    }

    private void eachOnce() {
        for (String word : WORDS) {
            dueTold(word + " 1;", 1);
            dueFault(word + " 1;" + word + " 1;", word.length() + 3, 3);
            dueFault(word + " 1;" + word + " 2;", word.length() + 3, 3);
        }
        WicketBoard x = new WicketBoard();
        due("rules()", say(x, "row 1;of 1;"), 2);
        due("rules() with the same in a later text", say(x, "row 2;of 2;"), 2);
        due("rules() with a fault behind them", say(x, "row 1;of 1;?"), -12);
        due("rules() with the same behind a fault", say(x, "row 2;of 2;"), 2);
    }

    private void firstAlongTheText() {
        dueFault("? row 0;", 0, 1);
        dueFault("row 0;?", 4, 2);
        dueFault("row 0;row 1;", 4, 2);
        dueFault("row 1;row 0;", 6, 3);
        dueFault("row 1;?;row 1;", 6, 1);
        dueFault("row 1;row 1;?", 6, 3);
        dueFault("row 1;row ?", 6, 3);
        dueFault("row 1;row", 6, 3);
        dueFault("row 10;of 0;", 4, 2);
        dueFault("row 1;of 0;row 1;", 9, 2);
        dueFault("row 1;up 1;up 1;row 1;", 11, 3);
        dueFault("row 0", 4, 2);
        dueFault("row 0;" + blanks(174), 4, 2);
        dueFault("row 1;row 1;" + blanks(168), 6, 3);
    }

    private void leastOfOneToken() {
        dueFault("row 1 row 1;", 6, 1);
        dueFault("row 1;far row 1;", 10, 1);
        dueFault("row 1;row1 1;", 6, 1);
        dueFault("row 9999;", 4, 1);
        dueFault("row 0000;", 4, 1);
        dueFault("row 0a;", 4, 1);
        dueFault("row 1 0;", 6, 1);
        dueFault("0;", 0, 1);
        dueFault("row 1;row 1;", 6, 3);
        dueFault("row 000;", 4, 2);
    }

    private void cannotCome() {
        dueFault("?", 0, 1);
        dueFault(" \n?", 2, 1);
        dueFault(";", 0, 1);
        dueFault("5", 0, 1);
        dueFault("word", 0, 1);
        dueFault("row ?", 4, 1);
        dueFault("row ;", 4, 1);
        dueFault("row far", 4, 1);
        dueFault("row word", 4, 1);
        dueFault("row 5 ?", 6, 1);
        dueFault("row 5 5", 6, 1);
        dueFault("row 5 far", 6, 1);
        dueFault("row 5; ?", 7, 1);
        dueFault("row 5; ;", 7, 1);
        dueFault("row 5; 5", 7, 1);
        dueFault("row 5; word", 7, 1);
        dueTold("row 5; far 5;", 2);
    }

    private void theEnd() {
        dueTold("", 0);
        dueFault("row", 3, 1);
        dueFault("row ", 4, 1);
        dueFault("row\n\n", 5, 1);
        dueFault("row 5", 5, 1);
        dueFault("row 5 ", 6, 1);
        dueFault("row 5;of", 8, 1);
        dueFault("row 5;of 1", 10, 1);
        dueFault(blanks(156) + "row", 159, 1);
        dueFault(blanks(157) + "row", 160, 1);
        dueFault("row" + blanks(157), 160, 1);
        dueFault("row 5" + blanks(155), 160, 1);
        dueTold("row 5" + blanks(154) + ";", 1);
    }

    private void moreThan160() {
        dueTold(blanks(160), 0);
        dueFault(blanks(161), 160, 1);
        dueFault(blanks(159) + "?", 159, 1);
        dueFault(blanks(159) + "?" + blanks(1), 159, 1);
        dueFault(blanks(159) + "?" + blanks(20), 159, 1);
        dueFault(blanks(160) + "?", 160, 1);
        dueFault(blanks(161) + "?", 160, 1);
        dueFault("row" + blanks(158), 160, 1);
        dueFault("row 5" + blanks(155) + ";", 160, 1);
        dueFault("row 5;" + blanks(153) + ";" + blanks(20), 159, 1);
        dueFault("row 5;" + blanks(154) + ";", 160, 1);
        dueFault("row 5;" + blanks(154) + "row 5;", 160, 1);
        dueFault("row 5;" + blanks(154) + "of 0;", 160, 1);
        dueFault("?" + blanks(179), 0, 1);
    }

    private void readWhole() {
        dueFault(blanks(157) + "row 5;", 160, 1);
        dueFault(blanks(158) + "row 5;", 160, 1);
        dueFault(blanks(159) + "row 5;", 160, 1);
        dueFault(blanks(160) + "rox 5;", 160, 1);
        dueFault(blanks(159) + "rox 5;", 159, 1);
        dueFault(blanks(157) + "rows 5;", 157, 1);
        dueFault(blanks(157) + "row5 5;", 157, 1);
        dueFault(blanks(155) + "row 9;", 160, 1);
        dueFault(blanks(155) + "row 10;", 159, 2);
        dueFault(blanks(156) + "row 10;", 160, 1);
        dueFault(blanks(155) + "far 200;", 160, 1);
        dueFault(blanks(155) + "far 201;", 159, 2);
        dueFault(blanks(155) + "far 2000;", 159, 1);
        dueFault(blanks(155) + "far 20a;", 159, 1);
        dueFault("row 1;" + blanks(153) + "row 1;", 159, 3);
        dueFault("row 1;" + blanks(153) + "rows 1;", 159, 1);
        dueFault(blanks(155) + "far " + "0".repeat(21), 159, 1);
        dueFault(blanks(159) + "r".repeat(21), 159, 1);
        dueFault(blanks(160) + "r".repeat(20), 160, 1);
    }

    private void numberNotAsTold() {
        dueFault("row 0;", 4, 2);
        dueTold("row 1;", 1);
        dueTold("row 9;", 1);
        dueFault("row 10;", 4, 2);
        dueFault("row \n 10;", 6, 2);
        dueFault("of 20;far 201;", 10, 2);
        dueTold("of 20;far 200;", 2);
        dueFault("row 010;", 4, 2);
        dueTold("row 009;", 1);
    }

    private void toldTwice() {
        dueTold("row 1;far 1;", 2);
        dueFault("row 1;row 1;", 6, 3);
        dueFault("row 1; \nrow 1;", 8, 3);
        dueFault("row 1;far 1;row 1;", 12, 3);
        dueFault("row 1;far 1;far 1;", 12, 3);
        dueFault("of 1;down 1;up 1;lost 1;won 1;fair 1;far 1;again 1;row 1;of 1;", 57, 3);
        dueTold("fair 1;far 1;", 2);
    }
}
