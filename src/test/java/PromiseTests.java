import java.util.NoSuchElementException;

/** For each promise of the document: ordinary inputs, the edges that it names, and wrong inputs. */
public final class PromiseTests {
    private static final int NONE = WicketBoard.NONE;
    private static int wrong = 0;
    private static String promise = "";

    public static void main(String[] args) {
        newObject();
        feed();
        end();
        rules();
        rulesPlacesOfFaults();
        rulesLongTexts();
        rulesBounds();
        fault();
        rule();
        umpire();
        away();
        game();
        may();
        mayRests();
        cost();
        send();
        sendFillsAhead();
        sendManyLikeOnes();
        off();
        offMoves();
        offCosts();
        seat();
        mark();
        next();
        nextGrades();
        about();
        stood();
        together();
        count();
        System.out.println(wrong == 0 ? "all promises are kept" : wrong + " answers are wrong");
        System.exit(wrong == 0 ? 0 : 1);
    }

    private static void due(String call, long got, long want) {
        if (got != want) {
            wrong++;
            System.out.println(promise + ": " + call + " answered " + got + ", due is " + want);
        }
    }

    private static void due(String call, boolean got, boolean want) {
        due(call, got ? 1 : 0, want ? 1 : 0);
    }

    private static void dueThrow(String call, WicketBoard x, int u, int what) {
        boolean thrown = false;
        try {
            x.about(u, what);
        } catch (NoSuchElementException e) {
            thrown = true;
        }
        due(call + " throws", thrown, true);
    }

    private static void tape(WicketBoard x, String text) {
        x.end(0);
        int numbers = 5 * ((text.length() + 19) / 20);
        int[] row = new int[numbers];
        for (int i = 0; i < 4 * numbers; i++) {
            row[i / 4] = row[i / 4] << 8 | (i < text.length() ? text.charAt(i) & 255 : 0);
        }
        for (int i = 0; i < numbers; i += 5) {
            x.feed(row[i], row[i + 1], row[i + 2], row[i + 3], row[i + 4]);
        }
        due("end(" + text.length() + ")", x.end(text.length()), true);
    }

    private static int say(WicketBoard x, String text) {
        tape(x, text);
        return x.rules();
    }

    private static void dueRules(String text, int told) {
        WicketBoard x = new WicketBoard();
        due("rules() of '" + text + "'", say(x, text), told);
        due("fault() of '" + text + "'", x.fault(), 0);
    }

    private static void dueFault(String text, int place, int kind) {
        WicketBoard x = new WicketBoard();
        due("rules() of '" + text + "'", say(x, text), -1 - place);
        due("fault() of '" + text + "'", x.fault(), kind);
    }

    private static void dueSeats(WicketBoard x, int... umpires) {
        for (int s = 0; s < umpires.length; s++) {
            due("seat(" + s + ")", x.seat(s), umpires[s]);
            if (umpires[s] != NONE) {
                due("about(" + umpires[s] + ", 1)", x.about(umpires[s], 1), s);
            }
        }
    }

    private static void dueMarks(WicketBoard x, int u, int given, int times, int sum) {
        due("about(" + u + ", 3)", x.about(u, 3), given);
        due("about(" + u + ", 4)", x.about(u, 4), times);
        due("about(" + u + ", 5)", x.about(u, 5), sum);
    }

    private static void newObject() {
        promise = "1 new";
        WicketBoard x = new WicketBoard();
        due("NONE", WicketBoard.NONE, -1);
        int[] usual = {3, 1, 60, 5, 2, 1, 80, 30, 4};
        for (int k = 0; k < 9; k++) {
            due("rule(" + k + ")", x.rule(k), usual[k]);
        }
        for (int what = 0; what < 6; what++) {
            due("count(" + what + ")", x.count(what), 0);
        }
        due("fault()", x.fault(), 0);
        due("together()", x.together(), 0);
        due("send()", x.send(), 0);
        due("seat(0)", x.seat(0), NONE);
        due("may(0, 0)", x.may(0, 0), false);
        due("rules()", x.rules(), 0);
        dueThrow("about(0, 0)", x, 0, 0);
    }

    private static void feed() {
        promise = "2 feed";
        WicketBoard x = new WicketBoard();
        int row = 'r' << 24 | 'o' << 16 | 'w' << 8 | ' ';
        int five = '5' << 24 | ';' << 16 | 'u' << 8 | 'p';
        int more = ' ' << 24 | '9' << 16 | '0' << 8 | ';';
        int blanks = 0x20202020;
        due("feed", x.feed(row, five, more, blanks, 0x0a0a0a0a), 20);
        due("rules()", x.rules(), 2);
        due("rule(0)", x.rule(0), 5);
        due("rule(6)", x.rule(6), 90);
        for (int i = 1; i <= 9; i++) {
            due("feed " + i, x.feed(0, 0, 0, 0, 0), 20 * i);
        }
        due("feed beyond 180", x.feed(blanks, blanks, blanks, blanks, blanks), NONE);
        due("count(5)", x.count(5), 180);
        x.end(161);
        due("feed to 181", x.feed(blanks, blanks, blanks, blanks, blanks), NONE);
        due("count(5)", x.count(5), 161);
        x.end(160);
        due("feed to 180", x.feed(blanks, blanks, blanks, blanks, blanks), 180);
        x.end(1);
        due("feed behind 1", x.feed(-1, -1, -1, -1, Integer.MIN_VALUE), 21);
        x.end(0);
        due("feed", x.feed(blanks, blanks, blanks, 0x20202052, blanks), 20);
        due("rules() with a sign at 15", x.rules(), -16);
        due("feed", x.feed(0x20200aa0, blanks, blanks, blanks, blanks), 20);
        due("rules() with a sign at 3", x.rules(), -4);
    }

    private static void end() {
        promise = "3 end";
        WicketBoard x = new WicketBoard();
        due("end(0)", x.end(0), true);
        due("end(1)", x.end(1), false);
        due("end(-1)", x.end(-1), false);
        x.feed(0, 0, 0, 0, 0);
        due("end(21)", x.end(21), false);
        due("end(MAX)", x.end(Integer.MAX_VALUE), false);
        due("end(MIN)", x.end(Integer.MIN_VALUE), false);
        due("count(5)", x.count(5), 20);
        due("end(20)", x.end(20), true);
        due("end(7)", x.end(7), true);
        due("count(5)", x.count(5), 7);
        due("end(8)", x.end(8), false);
        due("end(-1)", x.end(-1), false);
        due("count(5)", x.count(5), 7);
        due("end(0)", x.end(0), true);
        due("count(5)", x.count(5), 0);
    }

    private static void rules() {
        promise = "4 rules";
        dueRules("", 0);
        dueRules("  \n ", 0);
        dueRules("row 5;", 1);
        dueRules("row\n5\n;\n", 1);
        dueRules("of 20;row 9;", 2);
        dueRules("up 101;down 0;fair 0;won 0;lost 0;far 0;again 0;row 1;of 1;", 9);
        dueRules("far 007;", 1);
        WicketBoard x = new WicketBoard();
        due("rules()", say(x, "row 9;again 8;far 7;fair 6;won 5;lost 4;up 3;down 2;of 1;"), 9);
        for (int k = 0; k < 9; k++) {
            due("rule(" + k + ")", x.rule(k), 9 - k);
        }
        due("count(5)", x.count(5), 0);
        due("rules() with a fault", say(x, "row 2;up 0;"), -10);
        due("count(5) behind a fault", x.count(5), 0);
        for (int k = 0; k < 9; k++) {
            due("rule(" + k + ") stays", x.rule(k), 9 - k);
        }
        due("rules()", say(x, "far 88;"), 1);
        int[] usual = {3, 1, 88, 5, 2, 1, 80, 30, 4};
        for (int k = 0; k < 9; k++) {
            due("rule(" + k + ")", x.rule(k), usual[k]);
        }
        due("rules()", x.rules(), 0);
        due("rule(2)", x.rule(2), 60);
    }

    private static void rulesPlacesOfFaults() {
        promise = "4 rules, faults";
        dueFault("row", 3, 1);
        dueFault("row  \n", 6, 1);
        dueFault("row 5", 5, 1);
        dueFault("row 5; again", 12, 1);
        dueFault("5", 0, 1);
        dueFault(" ;", 1, 1);
        dueFault("row ;", 4, 1);
        dueFault("row row", 4, 1);
        dueFault("row 5 row", 6, 1);
        dueFault("row 5 6;", 6, 1);
        dueFault("row 5;;", 6, 1);
        dueFault("rows 5;", 0, 1);
        dueFault("ro 5;", 0, 1);
        dueFault("row5;", 0, 1);
        dueFault("row 5a;", 4, 1);
        dueFault("row 0000;", 4, 1);
        dueFault("far 2000;", 4, 1);
        dueFault("row 5;Far 5;", 6, 1);
        dueFault("rowX", 3, 1);
        dueFault("row\t5;", 3, 1);
        dueFault("row 5" + (char) 0xa0 + ";", 5, 1);
        dueFault("row -5;", 4, 1);
        dueFault("row 5,", 5, 1);
        dueFault("row\r5;", 3, 1);
        dueFault("row 5;{", 6, 1);
        dueFault("row 5`;", 5, 1);
        dueFault("row 5/;", 5, 1);
        dueFault("row 5:;", 5, 1);
        dueFault("row " + (char) 0, 4, 1);
        dueFault("row 0", 4, 2);
        dueFault("row 0;row", 4, 2);
        dueFault("row 1;row 1;", 6, 3);
        dueFault("row 1;row 0;", 6, 3);
        dueFault("row 1;row ;", 6, 3);
        dueFault("row 1;row", 6, 3);
        dueFault("row 1 row", 6, 1);
        dueFault("row 1;far 2;again 3;far 2;", 20, 3);
        dueFault("row 1;up 555;far 1;row", 9, 2);
        dueFault("of 1;of1", 5, 1);
        dueFault("row 5z;", 4, 1);
        dueFault("zrow 5;", 0, 1);
        dueFault("rowz 5;", 0, 1);
        for (String word : new String[] {"tow", "rew", "rov", "ran", "gain", "bar", "fail", "wont", "cost", "u", "if"}) {
            dueFault(word + " 5;", 0, 1);
        }
    }

    private static void rulesLongTexts() {
        promise = "4 rules, long texts";
        dueRules("row 5;" + " ".repeat(154), 1);
        dueRules(" ".repeat(154) + "row 5;", 1);
        dueFault("row 5;" + " ".repeat(155), 160, 1);
        dueFault(" ".repeat(161), 160, 1);
        dueFault("\n".repeat(180), 160, 1);
        dueFault(" ".repeat(155) + "row 5;", 160, 1);
        dueFault(" ".repeat(157) + "row", 160, 1);
        dueFault(" ".repeat(157) + "row 5;", 160, 1);
        dueFault(" ".repeat(158) + "row 5;", 160, 1);
        dueFault(" ".repeat(158) + "rows", 158, 1);
        dueFault(" ".repeat(157) + "rows 5;", 157, 1);
        dueFault(" ".repeat(159) + "row5", 159, 1);
        dueFault(" ".repeat(160) + "rows", 160, 1);
        dueFault(" ".repeat(155) + "row 10;", 159, 2);
        dueFault(" ".repeat(155) + "row 9;", 160, 1);
        dueFault(" ".repeat(155) + "row 1234;", 159, 1);
        dueFault(" ".repeat(156) + "row 10;", 160, 1);
        dueFault("row 1;" + " ".repeat(152) + "row 1;", 158, 3);
        dueFault("row 1;" + " ".repeat(154) + "row 1;", 160, 1);
        dueRules("row 1" + " ".repeat(154) + ";", 1);
        dueFault("row 1" + " ".repeat(155) + ";", 160, 1);
        dueFault("row x" + " ".repeat(170), 4, 1);
        dueFault(" ".repeat(159) + "x", 159, 1);
        dueFault(" ".repeat(159) + "w" + "x".repeat(20), 159, 1);
    }

    private static void rulesBounds() {
        promise = "4 rules, bounds";
        String[] words = {"row", "again", "far", "fair", "won", "lost", "up", "down", "of"};
        int[] least = {1, 0, 0, 0, 0, 0, 1, 0, 1};
        int[] most = {9, 9, 200, 50, 9, 9, 101, 100, 20};
        for (int k = 0; k < 9; k++) {
            for (int n : new int[] {least[k], most[k]}) {
                WicketBoard x = new WicketBoard();
                due(words[k] + " " + n, say(x, words[k] + " " + n + ";"), 1);
                due("rule(" + k + ")", x.rule(k), n);
            }
            int at = words[k].length() + 1;
            dueFault(words[k] + " " + (most[k] + 1) + ";", at, 2);
            dueFault(words[k] + " 999;", at, 2);
            if (least[k] > 0) {
                dueFault(words[k] + " " + (least[k] - 1) + ";", at, 2);
            }
            dueFault(words[k] + " 1;" + words[k] + " 1;", at + 2, 3);
        }
    }

    private static void fault() {
        promise = "5 fault";
        WicketBoard x = new WicketBoard();
        due("fault()", x.fault(), 0);
        say(x, "row");
        due("fault()", x.fault(), 1);
        tape(x, "row 0;");
        due("fault() ahead of rules()", x.fault(), 1);
        x.rules();
        due("fault()", x.fault(), 2);
        say(x, "up 1;up 1;");
        due("fault()", x.fault(), 3);
        x.umpire(0, 0, 1, 0);
        due("fault()", x.fault(), 3);
        say(x, "up 1;");
        due("fault()", x.fault(), 0);
    }

    private static void rule() {
        promise = "6 rule";
        WicketBoard x = new WicketBoard();
        for (int k : new int[] {-1, 9, 100, Integer.MIN_VALUE, Integer.MAX_VALUE}) {
            due("rule(" + k + ")", x.rule(k), NONE);
        }
        say(x, "down 44;");
        due("rule(7)", x.rule(7), 44);
        due("rule(6)", x.rule(6), 80);
    }

    private static void umpire() {
        promise = "7 umpire";
        WicketBoard x = new WicketBoard();
        int[][] bad = {
            {-1, 0, 1, 0}, {100, 0, 1, 0}, {0, -1, 1, 0}, {0, 100, 1, 0}, {0, 0, 0, 0}, {0, 0, 5, 0},
            {0, 0, 1, -1}, {0, 0, 1, 4096}, {Integer.MIN_VALUE, 0, 1, 0}, {0, Integer.MAX_VALUE, 1, 0},
            {0, 0, 1, Integer.MIN_VALUE},
        };
        for (int[] b : bad) {
            due("umpire of a wrong number", x.umpire(b[0], b[1], b[2], b[3]), NONE);
        }
        due("count(1)", x.count(1), 0);
        due("umpire", x.umpire(99, 99, 4, 4095), 0);
        due("umpire", x.umpire(0, 0, 1, 0), 1);
        due("about(0, 0)", x.about(0, 0), 4);
        due("about(1, 0)", x.about(1, 0), 1);
        for (int u = 2; u < 20; u++) {
            due("umpire", x.umpire(u, u, 2, 1), u);
        }
        due("umpire 21", x.umpire(0, 0, 1, 0), NONE);
        due("count(1)", x.count(1), 20);
    }

    private static void away() {
        promise = "8 away";
        WicketBoard x = new WicketBoard();
        x.umpire(0, 0, 1, 0);
        x.umpire(0, 0, 1, 0);
        x.umpire(9, 0, 1, 0);
        x.game(0, 0, 0, 1, 1);
        due("away(0, 0, false)", x.away(0, 0, false), false);
        due("away(0, 0, true)", x.away(0, 0, true), true);
        due("away(0, 0, true)", x.away(0, 0, true), false);
        due("may(0, 0)", x.may(0, 0), false);
        due("may(1, 0)", x.may(1, 0), true);
        due("away(0, 0, false)", x.away(0, 0, false), true);
        due("may(0, 0)", x.may(0, 0), true);
        due("away(0, 99, true)", x.away(0, 99, true), true);
        due("away(0, 99, false)", x.away(0, 99, false), true);
        for (int w : new int[] {-1, 100, Integer.MIN_VALUE, Integer.MAX_VALUE}) {
            due("away(0, " + w + ", true)", x.away(0, w, true), false);
        }
        for (int u : new int[] {-1, 3, 20, Integer.MAX_VALUE}) {
            due("away(" + u + ", 0, true)", x.away(u, 0, true), false);
        }
        due("send()", x.send(), 2);
        due("away(0, 0, true) with a seat", x.away(0, 0, true), false);
        due("may(0, 0)", x.may(0, 0), true);
        due("away(2, 0, true) without a seat", x.away(2, 0, true), true);
        due("away(0, 1, true) with a seat", x.away(0, 1, true), true);
        x.next();
        due("away(0, 0, true) of a week gone", x.away(0, 0, true), false);
        due("away(2, 0, false) of a week gone", x.away(2, 0, false), false);
        x.game(0, 0, 2, 3, 1);
        due("may(0, 0)", x.may(0, 0), false);
        due("may(1, 0)", x.may(1, 0), true);
        due("away(0, 1, false)", x.away(0, 1, false), true);
        due("may(0, 0)", x.may(0, 0), true);
    }

    private static void game() {
        promise = "9 game";
        WicketBoard x = new WicketBoard();
        int[][] bad = {
            {-1, 0, 0, 1, 1}, {100, 0, 0, 1, 1}, {0, -1, 0, 1, 1}, {0, 100, 0, 1, 1}, {0, 0, -1, 1, 1},
            {0, 0, 12, 1, 1}, {0, 0, 0, -1, 1}, {0, 0, 0, 12, 1}, {0, 0, 3, 3, 1}, {0, 0, 0, 1, 0},
            {0, 0, 0, 1, 5}, {0, 0, 32, 0, 1}, {0, 0, Integer.MIN_VALUE, 0, 1},
        };
        for (int[] b : bad) {
            due("game of a wrong number", x.game(b[0], b[1], b[2], b[3], b[4]), NONE);
        }
        due("count(2)", x.count(2), 0);
        x.umpire(0, 0, 1, 0);
        due("game", x.game(0, 0, 0, 1, 1), 0);
        due("send()", x.send(), 1);
        due("game", x.game(99, 99, 11, 0, 4), 1);
        dueSeats(x, 0, NONE, NONE, NONE);
        for (int g = 2; g < 8; g++) {
            due("game", x.game(0, 0, 0, 1, 1), g);
        }
        due("game 9", x.game(0, 0, 0, 1, 1), NONE);
        due("count(2)", x.count(2), 8);
        due("seat(15)", x.seat(15), NONE);
        due("cost(0, 15)", x.cost(0, 15), 0);
        x.next();
        due("game of the next week", x.game(5, 0, 2, 3, 1), 0);
        due("cost(0, 0)", x.cost(0, 0), 10);
        due("cost(0, 2)", x.cost(0, 2), NONE);
    }

    private static void may() {
        promise = "10 may";
        WicketBoard x = new WicketBoard();
        for (int grade = 1; grade <= 4; grade++) {
            x.umpire(0, 0, grade, 0);
        }
        for (int level = 1; level <= 4; level++) {
            x.game(0, 0, 0, 11, level);
        }
        for (int grade = 1; grade <= 4; grade++) {
            for (int level = 1; level <= 4; level++) {
                int s = 2 * (level - 1);
                due("may of grade " + grade + " and level " + level, x.may(grade - 1, s), grade <= level);
                due("may below", x.may(grade - 1, s + 1), grade <= level + 1);
            }
        }
        x.umpire(0, 0, 1, 1);
        x.umpire(0, 0, 1, 2048);
        x.umpire(0, 0, 1, 4095 - 2049);
        x.umpire(0, 60, 1, 0);
        x.umpire(30, 30, 1, 0);
        x.umpire(30, 31, 1, 0);
        due("may barred to the first", x.may(4, 0), false);
        due("may barred to the second", x.may(5, 0), false);
        due("may barred to others", x.may(6, 0), true);
        due("may of 60 miles", x.may(7, 0), true);
        due("may of 60 miles", x.may(8, 0), true);
        due("may of 61 miles", x.may(9, 0), false);
        say(x, "far 61;");
        due("may of 61 miles", x.may(9, 0), true);
        for (int bad : new int[] {-1, 8, 16, Integer.MIN_VALUE, Integer.MAX_VALUE}) {
            due("may(0, " + bad + ")", x.may(0, bad), false);
        }
        for (int bad : new int[] {-1, 10, 20, Integer.MIN_VALUE, Integer.MAX_VALUE}) {
            due("may(" + bad + ", 0)", x.may(bad, 0), false);
        }
        x.send();
        due("may(0, 0) whoever has it", x.may(0, 0), true);
        due("may(0, 2) with another seat", x.may(0, 2), true);
    }

    /** Three weeks: umpire 0 stands in all, umpire 1 from week 1 on, each at clubs 2 w and 2 w + 1. */
    private static WicketBoard threeWeeks() {
        WicketBoard x = new WicketBoard();
        x.umpire(0, 0, 1, 0);
        x.umpire(0, 0, 2, 0);
        x.away(1, 0, true);
        for (int w = 0; w < 3; w++) {
            x.game(0, 0, 2 * w, 2 * w + 1, 1);
            x.send();
            x.next();
        }
        return x;
    }

    private static void mayRests() {
        promise = "10 may, rests";
        WicketBoard x = threeWeeks();
        x.game(0, 0, 8, 9, 4);
        due("may(0, 0) behind three weeks", x.may(0, 0), false);
        due("may(1, 0) behind two weeks", x.may(1, 0), true);
        say(x, "row 4;");
        due("may(0, 0), there were not so many weeks", x.may(0, 0), true);
        say(x, "row 2;");
        due("may(1, 0)", x.may(1, 0), false);
        say(x, "row 1;");
        due("may(1, 0)", x.may(1, 0), false);
        x.next();
        x.game(0, 0, 8, 9, 4);
        due("may(0, 0) behind a rest", x.may(0, 0), true);
        say(x, "row 4;");
        due("may(0, 0) behind a rest", x.may(0, 0), true);
        WicketBoard y = threeWeeks();
        y.game(0, 0, 9, 4, 4);
        y.game(0, 0, 2, 9, 4);
        y.game(0, 0, 9, 1, 4);
        for (int again = 0; again <= 9; again++) {
            say(y, "row 9;again " + again + ";");
            due("may of the clubs of 1 week ahead, again " + again, y.may(0, 0), again < 1);
            due("may of the clubs of 2 weeks ahead, again " + again, y.may(0, 2), again < 2);
            due("may of the clubs of 3 weeks ahead, again " + again, y.may(0, 4), again < 3);
            due("may of one who was not there", y.may(1, 4), true);
        }
    }

    private static void cost() {
        promise = "11 cost";
        WicketBoard x = threeWeeks();
        due("cost(0, 0) without games", x.cost(0, 0), NONE);
        x.game(10, 20, 0, 1, 1);
        due("cost(0, 0)", x.cost(0, 0), 45);
        due("cost(1, 1)", x.cost(1, 1), 40);
        due("may(0, 0)", x.may(0, 0), false);
        say(x, "fair 50;");
        due("cost(0, 0)", x.cost(0, 0), 180);
        say(x, "fair 0;");
        due("cost(0, 0)", x.cost(0, 0), 30);
        x.umpire(99, 99, 4, 3);
        x.game(0, 0, 0, 1, 1);
        due("cost(2, 2)", x.cost(2, 2), 198);
        due("cost(2, 1)", x.cost(2, 1), 168);
        for (int bad : new int[] {-1, 4, 16, Integer.MIN_VALUE, Integer.MAX_VALUE}) {
            due("cost(0, " + bad + ")", x.cost(0, bad), NONE);
        }
        for (int bad : new int[] {-1, 3, 20, Integer.MIN_VALUE, Integer.MAX_VALUE}) {
            due("cost(" + bad + ", 0)", x.cost(bad, 0), NONE);
        }
    }

    private static void send() {
        promise = "12 send";
        WicketBoard x = new WicketBoard();
        x.umpire(0, 0, 1, 0);
        x.umpire(50, 0, 2, 0);
        x.game(0, 0, 0, 1, 1);
        x.game(10, 0, 2, 3, 1);
        due("send()", x.send(), 2);
        dueSeats(x, 0, NONE, NONE, 1);
        due("together()", x.together(), 40);
        x.umpire(9, 0, 3, 0);
        due("send()", x.send(), 2);
        x.umpire(0, 60, 1, 0);
        due("send()", x.send(), 3);
        due("together()", x.together(), 100);
        dueSeats(x, 0, 3, NONE, 1);
        due("mark", x.mark(0, 0, 50, true), true);
        due("send() with marks", x.send(), NONE);
        x.next();
        due("send() of the next week", x.send(), 0);
        x.game(0, 0, 4, 5, 4);
        due("send()", x.send(), 2);
        dueSeats(x, 0, 2);
        x.away(3, 1, true);
        say(x, "far 8;");
        due("send() anew", x.send(), 1);
        dueSeats(x, 0, NONE);
        due("about(2, 1)", x.about(2, 1), NONE);
        say(x, "far 0;row 1;");
        due("send() with none", x.send(), 0);
        dueSeats(x, NONE, NONE);
        due("about(0, 1)", x.about(0, 1), NONE);
    }

    private static void sendFillsAhead() {
        promise = "12 send, as many as can be";
        WicketBoard x = new WicketBoard();
        x.umpire(0, 0, 2, 0);
        x.umpire(60, 0, 2, 4);
        x.game(0, 0, 0, 1, 1);
        x.game(0, 50, 2, 3, 1);
        due("send(): more filled although it costs more", x.send(), 2);
        dueSeats(x, NONE, 1, NONE, 0);
        due("together()", x.together(), 110);
    }

    private static void sendManyLikeOnes() {
        promise = "12 send, like ones";
        WicketBoard x = new WicketBoard();
        for (int u = 0; u < 20; u++) {
            x.umpire(u, 0, 1, 0);
        }
        for (int g = 0; g < 8; g++) {
            x.game(0, 0, 0, 1, 1);
        }
        due("send()", x.send(), 16);
        due("together()", x.together(), 120);
        for (int s = 0; s < 16; s++) {
            due("seat(" + s + ")", x.seat(s), s);
        }
        WicketBoard y = new WicketBoard();
        y.umpire(0, 0, 1, 0);
        y.umpire(0, 0, 2, 0);
        y.umpire(0, 0, 1, 0);
        for (int g = 0; g < 8; g++) {
            y.game(0, 0, 0, 1, g < 7 ? 1 : 4);
        }
        due("send()", y.send(), 3);
        dueSeats(y, 0, 1, 2, NONE, NONE, NONE);
        WicketBoard z = new WicketBoard();
        z.umpire(0, 0, 1, 2);
        z.umpire(0, 0, 1, 0);
        z.game(0, 0, 0, 1, 1);
        z.game(0, 0, 2, 3, 1);
        due("send()", z.send(), 2);
        dueSeats(z, 1, NONE, 0, NONE);
        WicketBoard v = new WicketBoard();
        v.umpire(0, 0, 1, 4);
        v.umpire(10, 0, 1, 0);
        v.umpire(0, 0, 1, 0);
        v.umpire(0, 0, 4, 0);
        v.game(0, 0, 0, 1, 4);
        v.game(0, 0, 2, 3, 1);
        due("send(): the least cost ahead of the first", v.send(), 4);
        dueSeats(v, 0, 3, 1, 2);
    }

    private static void off() {
        promise = "13 off";
        WicketBoard x = new WicketBoard();
        x.umpire(0, 0, 1, 0);
        x.umpire(7, 0, 1, 0);
        x.umpire(5, 0, 1, 0);
        x.umpire(0, 5, 1, 0);
        x.umpire(1, 0, 4, 0);
        x.game(0, 0, 0, 1, 1);
        for (int bad : new int[] {-1, 0, 5, 20, Integer.MIN_VALUE, Integer.MAX_VALUE}) {
            due("off(" + bad + ")", x.off(bad), NONE);
        }
        x.send();
        dueSeats(x, 0, 2);
        due("off(0)", x.off(0), 1);
        dueSeats(x, 3, 2);
        due("about(0, 1)", x.about(0, 1), NONE);
        due("may(0, 0): is away", x.may(0, 0), false);
        due("off(0)", x.off(0), NONE);
        due("off(2)", x.off(2), 1);
        dueSeats(x, 3, 1);
        due("off(3)", x.off(3), 0);
        dueSeats(x, NONE, 1);
        due("off(4): without a seat", x.off(4), NONE);
        due("away(0, 0, false)", x.away(0, 0, false), true);
        due("away(4, 0, false)", x.away(4, 0, false), false);
        due("send()", x.send(), 2);
        dueSeats(x, 0, 1);
        due("mark", x.mark(1, 1, 0, false), true);
        due("off(0) with marks", x.off(0), NONE);
        dueSeats(x, 0, 1);
        x.next();
        x.game(0, 0, 2, 3, 1);
        due("may(0, 0): is not away in the next week", x.may(0, 0), true);
        WicketBoard y = new WicketBoard();
        y.umpire(0, 0, 1, 0);
        y.umpire(0, 0, 1, 0);
        y.umpire(6, 0, 1, 0);
        y.game(0, 0, 0, 1, 1);
        y.send();
        y.next();
        y.game(0, 0, 2, 3, 1);
        y.game(6, 0, 4, 5, 1);
        y.away(0, 1, true);
        y.send();
        dueSeats(y, 1, NONE, 2, NONE);
        y.umpire(5, 0, 1, 0);
        y.away(0, 1, false);
        due("off(1): of like cost the least number", y.off(1), 1);
        dueSeats(y, 0, NONE, 2, NONE);
    }

    private static void offMoves() {
        promise = "13 off, moves";
        WicketBoard x = new WicketBoard();
        x.umpire(0, 0, 1, 0);
        x.umpire(20, 0, 1, 0);
        x.umpire(12, 0, 1, 0);
        x.umpire(11, 0, 4, 0);
        x.umpire(22, 0, 4, 0);
        x.umpire(14, 0, 4, 0);
        x.game(0, 0, 0, 1, 1);
        x.game(20, 0, 2, 3, 4);
        x.game(10, 0, 4, 5, 4);
        x.away(4, 0, true);
        x.away(5, 0, true);
        x.away(3, 0, true);
        due("send()", x.send(), 3);
        dueSeats(x, 0, NONE, 1, NONE, 2, NONE);
        x.away(3, 0, false);
        x.away(4, 0, false);
        // by 1: 20 and 2 less 0; by 2: 12 and 1 less 2
        due("off(0)", x.off(0), 2);
        dueSeats(x, 2, NONE, 1, NONE, 3, NONE);
        due("together()", x.together(), 13);
        WicketBoard y = new WicketBoard();
        y.umpire(0, 0, 1, 0);
        y.umpire(10, 0, 1, 0);
        y.umpire(0, 10, 1, 0);
        y.game(0, 0, 0, 1, 1);
        y.game(0, 10, 2, 3, 4);
        y.game(10, 0, 4, 5, 4);
        due("send()", y.send(), 3);
        dueSeats(y, 0, NONE, 2, NONE, 1, NONE);
        y.umpire(13, 13, 3, 0);
        y.umpire(13, 13, 3, 0);
        due("off(0): of like ones the least seat, then the least number", y.off(0), 2);
        dueSeats(y, 2, NONE, 3, NONE, 1, NONE);
        due("off(2)", y.off(2), 2);
        dueSeats(y, 1, NONE, 3, NONE, 4, NONE);
        due("off(1): none who has a seat may move", y.off(1), 0);
        dueSeats(y, NONE, NONE, 3, NONE, 4, NONE);
        due("count(3)", y.count(3), 2);
    }

    /** Games at 0, 0 and two other places, each with its first seat filled, and two of grade 3 free. */
    private static WicketBoard twoMoves(int[] movers, int[] places, int[] free) {
        WicketBoard x = new WicketBoard();
        x.umpire(0, 0, 1, 0);
        x.umpire(movers[0], movers[1], 1, 0);
        x.umpire(movers[2], movers[3], 1, 0);
        x.game(0, 0, 0, 1, 1);
        x.game(places[0], places[1], 2, 3, 3);
        x.game(places[2], places[3], 4, 5, 3);
        x.send();
        dueSeats(x, 0, NONE, 1, NONE, 2, NONE);
        x.umpire(free[0], free[1], 3, 0);
        x.umpire(free[2], free[3], 3, 0);
        return x;
    }

    private static void offCosts() {
        promise = "13 off, costs of moves";
        // 15 and 12 less 10, or 10 and 8 less 0
        WicketBoard x = twoMoves(new int[] {15, 0, 0, 10}, new int[] {25, 0, 0, 10}, new int[] {25, 12, 0, 18});
        due("off(0)", x.off(0), 2);
        dueSeats(x, 1, NONE, 3, NONE, 2, NONE);
        // 10 and 10 less 0, or 15 and 2 less 0
        WicketBoard y = twoMoves(new int[] {10, 0, 0, 15}, new int[] {10, 0, 0, 15}, new int[] {10, 10, 0, 17});
        due("off(0)", y.off(0), 2);
        dueSeats(y, 2, NONE, 1, NONE, 4, NONE);
        WicketBoard z = new WicketBoard();
        z.umpire(0, 0, 1, 0);
        z.umpire(5, 0, 1, 0);
        z.game(0, 0, 0, 1, 4);
        z.game(5, 0, 2, 3, 1);
        z.send();
        dueSeats(z, 0, NONE, 1, NONE);
        z.umpire(0, 0, 4, 0);
        due("off(1): the first seat moves", z.off(1), 2);
        dueSeats(z, 2, NONE, 0, NONE);
        WicketBoard full = new WicketBoard();
        for (int u = 0; u < 16; u++) {
            full.umpire(0, 0, 1, 0);
        }
        for (int g = 0; g < 8; g++) {
            full.game(0, 0, 0, 1, 1);
        }
        due("send()", full.send(), 16);
        due("off(15) of full rows", full.off(15), 0);
        due("off(0) of full rows", full.off(0), 0);
        due("count(3)", full.count(3), 14);
    }

    private static void seat() {
        promise = "14 seat";
        WicketBoard x = new WicketBoard();
        x.umpire(0, 0, 2, 0);
        x.game(0, 0, 0, 1, 1);
        due("seat(1)", x.seat(1), NONE);
        x.send();
        due("seat(0)", x.seat(0), NONE);
        due("seat(1)", x.seat(1), 0);
        for (int bad : new int[] {-1, 2, 15, 16, Integer.MIN_VALUE, Integer.MAX_VALUE}) {
            due("seat(" + bad + ")", x.seat(bad), NONE);
        }
        x.next();
        due("seat(1) of the next week", x.seat(1), NONE);
        x.game(0, 0, 0, 1, 1);
        due("seat(1) of the next week", x.seat(1), NONE);
    }

    private static void mark() {
        promise = "15 mark";
        WicketBoard x = new WicketBoard();
        x.umpire(0, 0, 1, 0);
        x.umpire(0, 0, 2, 0);
        x.game(0, 0, 0, 1, 1);
        x.game(0, 0, 2, 3, 1);
        due("mark of an empty seat", x.mark(0, 0, 5, true), false);
        x.send();
        int[][] bad = {
            {-1, 0, 5}, {4, 0, 5}, {16, 0, 5}, {0, -1, 5}, {0, 2, 5}, {0, 0, -1}, {0, 0, 101},
            {2, 0, 5}, {Integer.MIN_VALUE, 0, 5}, {0, Integer.MAX_VALUE, 5}, {0, 0, Integer.MIN_VALUE},
        };
        for (int[] b : bad) {
            due("mark of a wrong number", x.mark(b[0], b[1], b[2], true), false);
        }
        due("count(4)", x.count(4), 0);
        dueMarks(x, 0, 0, 0, 0);
        due("mark(0, 0, 100, true)", x.mark(0, 0, 100, true), true);
        dueMarks(x, 0, 1, 2, 200);
        due("mark(0, 0, 100, true) again", x.mark(0, 0, 100, false), false);
        due("mark(0, 1, 7, true)", x.mark(0, 1, 7, false), true);
        dueMarks(x, 0, 2, 3, 207);
        dueMarks(x, 1, 0, 0, 0);
        say(x, "won 9;lost 0;");
        due("mark(1, 1, 0, true)", x.mark(1, 1, 0, true), true);
        dueMarks(x, 1, 1, 9, 0);
        due("mark(1, 0, 50, false)", x.mark(1, 0, 50, false), true);
        dueMarks(x, 1, 2, 9, 0);
        dueMarks(x, 0, 2, 3, 207);
        due("count(4)", x.count(4), 4);
        due("mark(1, 0, 50, false) again", x.mark(1, 0, 50, true), false);
        x.next();
        x.game(0, 0, 4, 5, 4);
        x.send();
        due("mark(0, 0, 1, true) of the next week", x.mark(0, 0, 1, true), true);
        due("mark(1, 0, 1, true)", x.mark(1, 0, 1, true), true);
        dueMarks(x, 0, 3, 12, 216);
        dueMarks(x, 1, 3, 18, 9);
        WicketBoard y = new WicketBoard();
        for (int u = 0; u < 16; u++) {
            y.umpire(0, 0, 1, 0);
        }
        for (int g = 0; g < 8; g++) {
            y.game(0, 0, 0, 1, 1);
        }
        y.send();
        for (int s = 0; s < 16; s++) {
            due("mark of seat " + s, y.mark(s, 1, s, false), true);
            dueMarks(y, s, 1, 1, s);
            due("mark of seat " + s, y.mark(s, 0, s, false), true);
            due("mark of seat " + s + " again", y.mark(s, 1, s, false), false);
        }
        due("count(4)", y.count(4), 32);
    }

    private static void next() {
        promise = "16 next";
        WicketBoard x = new WicketBoard();
        x.umpire(0, 0, 1, 0);
        x.game(0, 0, 0, 1, 1);
        x.send();
        due("next()", x.next(), 1);
        due("count(0)", x.count(0), 1);
        due("count(2)", x.count(2), 0);
        due("count(3)", x.count(3), 0);
        due("about(0, 1)", x.about(0, 1), NONE);
        due("about(0, 2)", x.about(0, 2), 1);
        for (int w = 2; w <= 99; w++) {
            due("next()", x.next(), w);
        }
        x.game(0, 0, 0, 1, 1);
        due("send()", x.send(), 1);
        due("away(0, 99, true)", x.away(0, 99, true), false);
        x.umpire(0, 0, 1, 0);
        due("away(1, 99, true)", x.away(1, 99, true), true);
        due("may(1, 0) in week 99", x.may(1, 0), false);
        due("mark", x.mark(0, 0, 1, true), true);
        due("next() of 99", x.next(), NONE);
        due("count(0)", x.count(0), 99);
        due("count(2)", x.count(2), 1);
        due("count(4)", x.count(4), 1);
        due("seat(0)", x.seat(0), 0);
        due("about(0, 2)", x.about(0, 2), 1);
        due("stood(0, 98)", x.stood(0, 98), 0);
        due("stood(0, 99)", x.stood(0, 99), NONE);
    }

    /** Gives the first umpire, of a grade, two marks in a week with the rules, and ends it. */
    private static WicketBoard graded(int grade, String rules, int first, int second) {
        WicketBoard x = new WicketBoard();
        say(x, rules);
        x.umpire(0, 0, grade, 0);
        x.game(0, 0, 0, 1, 4);
        x.send();
        x.mark(0, 0, first, true);
        x.mark(0, 1, second, false);
        x.next();
        return x;
    }

    private static void dueGrade(int grade, String rules, int first, int second, int want) {
        WicketBoard x = graded(grade, rules, first, second);
        String call = "grade " + grade + " with " + rules + " and marks " + first + ", " + second;
        due(call, x.about(0, 0), want);
        due(call + ": marks left", x.about(0, 3), want == grade ? 2 : 0);
        if (want != grade) {
            dueMarks(x, 0, 0, 0, 0);
        }
    }

    private static void nextGrades() {
        promise = "16 next, grades";
        dueGrade(3, "of 2;", 80, 80, 2);
        dueGrade(3, "of 2;", 80, 79, 3);
        dueGrade(3, "of 2;", 81, 78, 2);
        dueGrade(3, "of 2;", 79, 82, 2);
        dueGrade(3, "of 2;", 79, 81, 3);
        dueGrade(3, "of 3;", 100, 100, 3);
        dueGrade(3, "of 1;", 100, 100, 2);
        dueGrade(3, "of 2;", 30, 30, 4);
        dueGrade(3, "of 2;", 30, 31, 3);
        dueGrade(3, "of 2;", 29, 32, 4);
        dueGrade(4, "of 2;", 0, 0, 4);
        dueGrade(1, "of 2;", 100, 100, 1);
        dueGrade(2, "of 2;", 100, 100, 1);
        dueGrade(1, "of 2;", 0, 0, 2);
        dueGrade(2, "of 2;up 50;down 50;", 50, 50, 1);
        dueGrade(1, "of 2;up 50;down 50;", 50, 50, 2);
        dueGrade(4, "of 2;up 50;down 50;", 50, 50, 3);
        dueGrade(2, "of 2;up 101;", 100, 100, 2);
        dueGrade(2, "of 2;won 0;lost 0;", 100, 100, 2);
        dueGrade(2, "of 2;won 0;lost 0;", 0, 0, 2);
        dueGrade(2, "of 2;won 0;", 0, 100, 1);
        dueGrade(2, "of 2;lost 0;", 0, 100, 3);
        dueGrade(2, "of 2;up 1;down 0;", 0, 0, 3);
        WicketBoard x = graded(2, "of 4;", 100, 100);
        x.game(0, 0, 2, 3, 4);
        x.send();
        x.mark(0, 0, 100, true);
        x.next();
        due("about(0, 0) with three marks", x.about(0, 0), 2);
        due("about(0, 3)", x.about(0, 3), 3);
        x.next();
        due("about(0, 0) with three marks", x.about(0, 0), 2);
        say(x, "of 3;");
        x.next();
        due("about(0, 0) by the rules at the week's end", x.about(0, 0), 1);
        dueMarks(x, 0, 0, 0, 0);
    }

    private static void about() {
        promise = "17 about";
        WicketBoard x = new WicketBoard();
        dueThrow("about(0, 0) without umpires", x, 0, 0);
        x.umpire(1, 2, 3, 4);
        x.umpire(1, 2, 1, 4);
        int[] want = {3, NONE, 0, 0, 0, 0};
        for (int what = 0; what < 6; what++) {
            due("about(0, " + what + ")", x.about(0, what), want[what]);
        }
        for (int bad : new int[] {-1, 6, Integer.MIN_VALUE, Integer.MAX_VALUE}) {
            dueThrow("about(0, " + bad + ")", x, 0, bad);
        }
        for (int bad : new int[] {-1, 2, 19, 20, Integer.MIN_VALUE, Integer.MAX_VALUE}) {
            dueThrow("about(" + bad + ", 0)", x, bad, 0);
        }
        x.game(1, 2, 0, 1, 3);
        x.send();
        x.mark(0, 0, 33, true);
        dueThrow("about(0, 6)", x, 0, 6);
        int[] then = {3, 0, 0, 1, 2, 66};
        for (int what = 0; what < 6; what++) {
            due("about(0, " + what + ")", x.about(0, what), then[what]);
        }
        x.next();
        int[] behind = {3, NONE, 1, 1, 2, 66};
        for (int what = 0; what < 6; what++) {
            due("about(0, " + what + ")", x.about(0, what), behind[what]);
        }
    }

    private static void stood() {
        promise = "18 stood";
        WicketBoard x = threeWeeks();
        due("stood(0, 0)", x.stood(0, 0), 3);
        due("stood(0, 1)", x.stood(0, 1), 12);
        due("stood(0, 2)", x.stood(0, 2), 48);
        due("stood(1, 0)", x.stood(1, 0), 0);
        due("stood(1, 1)", x.stood(1, 1), 12);
        for (int bad : new int[] {-1, 3, 99, 100, Integer.MIN_VALUE, Integer.MAX_VALUE}) {
            due("stood(0, " + bad + ")", x.stood(0, bad), NONE);
        }
        for (int bad : new int[] {-1, 2, 20, Integer.MIN_VALUE, Integer.MAX_VALUE}) {
            due("stood(" + bad + ", 0)", x.stood(bad, 0), NONE);
        }
        x.umpire(0, 0, 1, 0);
        due("stood(2, 0) of one who came later", x.stood(2, 0), 0);
        x.game(0, 0, 11, 0, 1);
        due("send()", x.send(), 2);
        due("stood(1, 3) ahead of its end", x.stood(1, 3), NONE);
        x.next();
        due("stood(2, 3)", x.stood(2, 3), 2049);
        due("stood(0, 3)", x.stood(0, 3), 0);
    }

    private static void together() {
        promise = "19 together";
        WicketBoard x = threeWeeks();
        x.umpire(3, 4, 1, 0);
        x.game(0, 0, 8, 9, 1);
        due("together() of empty seats", x.together(), 0);
        due("send()", x.send(), 2);
        due("together()", x.together(), 17);
        say(x, "fair 7;");
        due("together() by the rules now", x.together(), 21);
        due("off(1)", x.off(1), 0);
        due("together()", x.together(), 7);
        x.next();
        due("together() of no games", x.together(), 0);
    }

    private static void count() {
        promise = "20 count";
        WicketBoard x = threeWeeks();
        x.umpire(3, 4, 1, 0);
        x.game(0, 0, 8, 9, 1);
        x.game(0, 0, 8, 9, 1);
        x.send();
        x.mark(0, 0, 1, true);
        x.feed(0, 0, 0, 0, 0);
        x.end(13);
        int[] want = {3, 3, 2, 2, 1, 13};
        for (int what = 0; what < 6; what++) {
            due("count(" + what + ")", x.count(what), want[what]);
        }
        for (int bad : new int[] {-1, 6, Integer.MIN_VALUE, Integer.MAX_VALUE}) {
            due("count(" + bad + ")", x.count(bad), NONE);
        }
        x.next();
        int[] then = {4, 3, 0, 0, 0, 13};
        for (int what = 0; what < 6; what++) {
            due("count(" + what + ")", x.count(what), then[what]);
        }
    }
}
