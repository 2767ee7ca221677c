import java.util.ArrayList;
import java.util.List;

/** The boundaries of UMPIRES, GAMES and what is told of them: promises 1, 7 to 11, 14, 17 to 20. */
public final class BoardBoundaries extends Sentences {
    public static void main(String[] args) {
        new BoardBoundaries().report();
    }

    @Override
    void testAll() {
        testNumbers();
        testMay();
        testNewObject();
        testUmpiresAndGames();
        testAsking();
    }

    private void testNumbers() {
        sentence("public static final int NONE = -1", () -> due("NONE", WicketBoard.NONE, -1));
        sentence("at most 512 calls after it has been made", this::calls512);
        sentence("CLUBS 0 .. 11", this::clubs);
        sentence("UMPIRES 0 .. 19", this::twentyUmpires);
        sentence("live at x, y (0 to 99 miles)", this::umpiresPlace);
        sentence("have a GRADE 1 (the highest) to 4", this::grades);
        sentence("CLUBS that are BARRED to them (bits 0 to 11)", this::barredBits);
        sentence("may be AWAY in a WEEK", this::awayInOneWeek);
        sentence("WEEK is 0 at first, 99 the last one", this::weeks);
        sentence("GAMES 0 .. 7 of a WEEK", this::eightGames);
        sentence("of a WEEK: at x, y", this::gamesPlace);
        sentence("of two unlike CLUBS", this::unlikeClubs);
        sentence("of a LEVEL 1 to 4", this::levels);
        sentence("each has two SEATS: SEAT 2 g and 2 g + 1 of GAME g", this::twoSeats);
        sentence("A call that throws changes nothing", this::throwChangesNothing);
    }

    private void testMay() {
        sentence("is not AWAY", this::mayNotAway);
        sentence("none of both CLUBS is BARRED", this::mayNotBarred);
        sentence("the GRADE is not above LEVEL (SEAT 2 g)", this::mayGradeFirst);
        sentence("not above LEVEL and 1 (SEAT 2 g + 1)", this::mayGradeSecond);
        sentence("the difference of x and that of y, without signs, together", this::milesWithoutSigns);
        sentence("are far at most", this::mayFar);
        sentence("one did not STAND in each of the row WEEKS ahead", this::mayRow);
        sentence("(if there were so many)", this::mayRowAtFirst);
        sentence("in none of the again WEEKS ahead did one STAND", this::mayAgain);
        sentence("at a GAME of one of both CLUBS", this::mayAgainClubs);
        sentence("COST: MILES, and fair times the number of WEEKS in which one STOOD", this::costOfWeeks);
    }

    private void testNewObject() {
        sentence("No UMPIRES, GAMES", this::newWithoutAny);
        sentence("RULES as without a text", this::newRules);
        sentence("WEEK 0;", this::newWeek);
        sentence("an empty tape", this::newTape);
    }

    private void testUmpiresAndGames() {
        sentence("One more of UMPIRES: the number", this::umpireNumbers);
        sentence("NONE: there are 20, or a number is not as told", this::umpireRefused);
        sentence("UMPIRE u is AWAY in a WEEK (from now on), or not", this::awayFromNowOn);
        sentence("true, if that is other than it was", this::awayOther);
        sentence("false also without such ones, or", this::awayWithoutSuch);
        sentence("or if u has a SEAT now and it is this WEEK", this::awayWithSeat);
        sentence("One more GAME of this WEEK (its SEATS empty): its number", this::gameNumbers);
        sentence("NONE: there are 8, or a number is not as told", this::gameRefused);
    }

    private void testAsking() {
        sentence("Whether UMPIRE u MAY have a SEAT (whoever has it)", this::mayWhoeverHasIt);
        sentence("false also without such ones.", this::mayWithoutSuch);
        sentence("(whether one MAY have it or not)", this::costWithoutMay);
        sentence("NONE: no such ones.", this::costWithoutSuch);
        sentence("The UMPIRE of a SEAT", this::seatHolder);
        sentence("NONE: none, or no such SEAT", this::seatNone);
        sentence("0 GRADE, 1 SEAT (NONE), 2 in how many WEEKS one STOOD", this::aboutOne);
        sentence("3 MARKS since the GRADE was given, 4 how often they count together", this::aboutMarks);
        sentence("5 all of these, as often as they count", this::aboutAllMarks);
        sentence("NoSuchElementException: no such one, or another what", this::aboutThrows);
        sentence("Of a WEEK that ended", this::weekThatEnded);
        sentence("the CLUBS of the GAME at which UMPIRE u STOOD, as bits", this::stoodBits);
        sentence("0: one did not", this::didNotStand);
        sentence("NONE: no such UMPIRE, or no such WEEK", this::stoodNone);
        sentence("COST of all SEATS as they are filled", this::togetherAll);
        sentence("0 WEEK, 1 UMPIRES, 2 GAMES, 3 SEATS filled, 4 MARKS of this WEEK, 5 bytes of the tape", this::counts);
        sentence("NONE for another what", this::countNone);
    }

    private static void addUmpires(WicketBoard x, int n) {
        for (int u = 0; u < n; u++) {
            x.umpire(0, 0, 1, 0);
        }
    }

    private static void addGames(WicketBoard x, int n) {
        for (int g = 0; g < n; g++) {
            x.game(0, 0, 0, 1, 1);
        }
    }

    private static int umpireOf(int x, int y, int grade, int barred) {
        return new WicketBoard().umpire(x, y, grade, barred);
    }

    private static int gameOf(int x, int y, int first, int second, int level) {
        return new WicketBoard().game(x, y, first, second, level);
    }

    private void calls512() {
        WicketBoard x = new WicketBoard();
        addUmpires(x, 20);
        addGames(x, 8);
        for (int call = 29; call <= 509; call++) {
            due("send() as call " + call, x.send(), 16);
        }
        due("seat(15) as call 510", x.seat(15), 15);
        due("off(15) as call 511", x.off(15), 1);
        due("seat(15) as call 512", x.seat(15), 16);
    }

    private void clubs() {
        for (int club : new int[] {0, 1, 10, 11}) {
            due("game of the first " + club, gameOf(0, 0, club, 5, 1), 0);
            due("game of the second " + club, gameOf(0, 0, 5, club, 1), 0);
        }
        for (int club : new int[] {MIN, -32, -1, 12, 13, 32, 43, MAX}) {
            due("game of the first " + club, gameOf(0, 0, club, 5, 1), NONE);
            due("game of the second " + club, gameOf(0, 0, 5, club, 1), NONE);
        }
    }

    private void twentyUmpires() {
        WicketBoard x = new WicketBoard();
        for (int u = 0; u < 20; u++) {
            due("umpire", x.umpire(u, 0, 1, 0), u);
        }
        due("umpire 20", x.umpire(20, 0, 1, 0), NONE);
        due("count(1)", x.count(1), 20);
        x.game(0, 0, 0, 1, 1);
        due("cost(0, 0)", x.cost(0, 0), 0);
        due("cost(18, 0)", x.cost(18, 0), 18);
        due("cost(19, 0)", x.cost(19, 0), 19);
        due("cost(20, 0)", x.cost(20, 0), NONE);
    }

    private void umpiresPlace() {
        for (int at : new int[] {0, 1, 98, 99}) {
            due("umpire at x " + at, umpireOf(at, 50, 1, 0), 0);
            due("umpire at y " + at, umpireOf(50, at, 1, 0), 0);
        }
        for (int at : new int[] {MIN, -2, -1, 100, 101, MAX}) {
            due("umpire at x " + at, umpireOf(at, 50, 1, 0), NONE);
            due("umpire at y " + at, umpireOf(50, at, 1, 0), NONE);
        }
        WicketBoard x = new WicketBoard();
        x.umpire(99, 0, 1, 0);
        x.umpire(0, 99, 1, 0);
        x.game(99, 0, 0, 1, 1);
        due("cost(0, 0)", x.cost(0, 0), 0);
        due("cost(1, 0)", x.cost(1, 0), 198);
    }

    private void grades() {
        for (int grade = 1; grade <= 4; grade++) {
            WicketBoard x = new WicketBoard();
            due("umpire of grade " + grade, x.umpire(0, 0, grade, 0), 0);
            due("about(0, 0)", x.about(0, 0), grade);
        }
        for (int grade : new int[] {MIN, -1, 0, 5, 6, MAX}) {
            due("umpire of grade " + grade, umpireOf(0, 0, grade, 0), NONE);
        }
    }

    /** UMPIRE k is barred from CLUB k alone; GAME g is of the CLUBS 2 g and 2 g + 1. */
    private void barredBits() {
        for (int barred : new int[] {0, 1, 2, 2047, 2048, 4094, 4095}) {
            due("umpire barred " + barred, umpireOf(0, 0, 1, barred), 0);
        }
        for (int barred : new int[] {MIN, -4096, -1, 4096, 4097, 8191, MAX}) {
            due("umpire barred " + barred, umpireOf(0, 0, 1, barred), NONE);
        }
        WicketBoard x = new WicketBoard();
        for (int k = 0; k < 12; k++) {
            x.umpire(0, 0, 1, 1 << k);
        }
        for (int g = 0; g < 6; g++) {
            x.game(0, 0, 2 * g, 2 * g + 1, 1);
        }
        for (int k = 0; k < 12; k++) {
            for (int g = 0; g < 6; g++) {
                due("may(" + k + ", " + 2 * g + ")", x.may(k, 2 * g), k / 2 != g);
            }
        }
    }

    private void awayInOneWeek() {
        WicketBoard x = new WicketBoard();
        addUmpires(x, 2);
        x.away(0, 1, true);
        for (int w = 0; w < 3; w++) {
            x.game(0, 0, 0, 1, 1);
            due("may(0, 0) in week " + w, x.may(0, 0), w != 1);
            due("may(1, 0) in week " + w, x.may(1, 0), true);
            x.next();
        }
    }

    private void weeks() {
        WicketBoard x = new WicketBoard();
        due("count(0)", x.count(0), 0);
        addUmpires(x, 2);
        due("away(0, 99, true)", x.away(0, 99, true), true);
        due("away(0, 100, true)", x.away(0, 100, true), false);
        due("away(1, 98, true)", x.away(1, 98, true), true);
        for (int w = 1; w <= 99; w++) {
            due("next()", x.next(), w);
            x.game(0, 0, 0, 1, 1);
            due("may(0, 0) in week " + w, x.may(0, 0), w != 99);
            due("may(1, 0) in week " + w, x.may(1, 0), w != 98);
        }
        due("next() of 99", x.next(), NONE);
        due("count(0)", x.count(0), 99);
    }

    private void eightGames() {
        WicketBoard x = new WicketBoard();
        x.umpire(0, 0, 1, 0);
        for (int g = 0; g < 8; g++) {
            due("game", x.game(g, 0, 0, 1, 1), g);
        }
        due("game 8", x.game(8, 0, 0, 1, 1), NONE);
        due("count(2)", x.count(2), 8);
        due("cost(0, 14)", x.cost(0, 14), 7);
        due("cost(0, 15)", x.cost(0, 15), 7);
        due("cost(0, 16)", x.cost(0, 16), NONE);
        x.next();
        due("game in the next week", x.game(0, 0, 0, 1, 1), 0);
        due("cost(0, 2)", x.cost(0, 2), NONE);
    }

    private void gamesPlace() {
        for (int at : new int[] {0, 1, 98, 99}) {
            due("game at x " + at, gameOf(at, 50, 0, 1, 1), 0);
            due("game at y " + at, gameOf(50, at, 0, 1, 1), 0);
        }
        for (int at : new int[] {MIN, -2, -1, 100, 101, MAX}) {
            due("game at x " + at, gameOf(at, 50, 0, 1, 1), NONE);
            due("game at y " + at, gameOf(50, at, 0, 1, 1), NONE);
        }
    }

    private void unlikeClubs() {
        for (int club = 0; club < 12; club++) {
            due("game of " + club + " twice", gameOf(0, 0, club, club, 1), NONE);
            int other = club == 11 ? 10 : club + 1;
            due("game of " + club + " and " + other, gameOf(0, 0, club, other, 1), 0);
            due("game of " + other + " and " + club, gameOf(0, 0, other, club, 1), 0);
        }
    }

    private void levels() {
        for (int level = 1; level <= 4; level++) {
            due("game of level " + level, gameOf(0, 0, 0, 1, level), 0);
        }
        for (int level : new int[] {MIN, -1, 0, 5, 6, MAX}) {
            due("game of level " + level, gameOf(0, 0, 0, 1, level), NONE);
        }
    }

    /** GAME g is g miles off, so that what a SEAT costs tells whose SEAT it is. */
    private void twoSeats() {
        WicketBoard x = new WicketBoard();
        x.umpire(0, 0, 1, 0);
        for (int games = 0; games <= 8; games++) {
            due("cost(0, -1)", x.cost(0, -1), NONE);
            for (int s = 0; s < 2 * games; s++) {
                due("cost(0, " + s + ")", x.cost(0, s), s / 2);
            }
            due("cost behind the last seat", x.cost(0, 2 * games), NONE);
            due("may behind the last seat", x.may(0, 2 * games), false);
            x.game(games, 0, 0, 1, 1);
        }
    }

    private static WicketBoard midWeek() {
        WicketBoard x = boardWith("fair 6;");
        addUmpires(x, 3);
        addGames(x, 1);
        x.send();
        x.next();
        x.game(3, 4, 5, 6, 2);
        x.send();
        x.mark(0, 1, 44, false);
        say(x, "row 0;");
        x.feed(1, 2, 3, 4, 5);
        return x;
    }

    /** What a board tells of itself; some hundred calls. */
    private static List<Integer> allTold(WicketBoard x) {
        List<Integer> told = new ArrayList<>();
        for (int k = 0; k < 9; k++) {
            told.add(x.rule(k));
        }
        for (int what = 0; what < 6; what++) {
            told.add(x.count(what));
        }
        for (int u = 0; u < x.count(1); u++) {
            for (int what = 0; what < 6; what++) {
                told.add(x.about(u, what));
            }
            told.add(x.stood(u, 0));
            told.add(x.cost(u, 0));
            told.add(x.may(u, 1) ? 1 : 0);
            told.add(x.away(u, 5, false) ? 1 : 0);
        }
        told.add(x.fault());
        told.add(x.together());
        for (int s = 0; s < 4; s++) {
            told.add(x.seat(s));
        }
        told.add(x.rules());
        return told;
    }

    private void throwChangesNothing() {
        WicketBoard x = midWeek();
        int[][] bad = {{-1, 0}, {3, 0}, {0, -1}, {0, 6}, {MIN, MIN}, {MAX, MAX}, {3, 6}};
        for (int[] b : bad) {
            dueThrow(x, b[0], b[1]);
        }
        due("all is told as without the throws", allTold(x).equals(allTold(midWeek())), true);
    }

    private void mayNotAway() {
        WicketBoard x = new WicketBoard();
        addUmpires(x, 2);
        addGames(x, 1);
        due("may(0, 0)", x.may(0, 0), true);
        x.away(0, 1, true);
        due("may(0, 0), away in the next week", x.may(0, 0), true);
        x.away(0, 0, true);
        due("may(0, 0), away", x.may(0, 0), false);
        due("may(0, 1), away", x.may(0, 1), false);
        due("may(1, 0)", x.may(1, 0), true);
        x.away(0, 0, false);
        due("may(0, 0), not away any more", x.may(0, 0), true);
    }

    private void mayNotBarred() {
        int[] barred = {0, 1 << 4, 1 << 9, 1 << 4 | 1 << 9, 4095 ^ (1 << 4 | 1 << 9), 4095 ^ 1 << 4, 4095 ^ 1 << 9, 4095};
        boolean[] may = {true, false, false, false, true, false, false, false};
        WicketBoard x = new WicketBoard();
        x.game(0, 0, 4, 9, 1);
        x.game(0, 0, 9, 4, 1);
        for (int u = 0; u < barred.length; u++) {
            x.umpire(0, 0, 1, barred[u]);
            for (int s = 0; s < 4; s++) {
                due("may(" + u + ", " + s + ") barred " + barred[u], x.may(u, s), may[u]);
            }
        }
    }

    private static WicketBoard gradesAndLevels() {
        WicketBoard x = new WicketBoard();
        for (int n = 1; n <= 4; n++) {
            x.umpire(0, 0, n, 0);
            x.game(0, 0, 0, 1, n);
        }
        return x;
    }

    private void mayGradeFirst() {
        WicketBoard x = gradesAndLevels();
        int[] lastOfLevel = {1, 2, 3, 4};
        for (int level = 1; level <= 4; level++) {
            for (int grade = 1; grade <= 4; grade++) {
                boolean want = grade <= lastOfLevel[level - 1];
                due("may of grade " + grade + " at level " + level, x.may(grade - 1, 2 * level - 2), want);
            }
        }
    }

    private void mayGradeSecond() {
        WicketBoard x = gradesAndLevels();
        int[] lastOfLevel = {2, 3, 4, 4};
        for (int level = 1; level <= 4; level++) {
            for (int grade = 1; grade <= 4; grade++) {
                boolean want = grade <= lastOfLevel[level - 1];
                due("may of grade " + grade + " at level " + level, x.may(grade - 1, 2 * level - 1), want);
            }
        }
    }

    private void milesWithoutSigns() {
        int[][] games = {{50, 50, 0}, {53, 57, 10}, {47, 43, 10}, {53, 43, 10}, {47, 57, 10}, {50, 99, 49}, {0, 50, 50}, {0, 0, 100}};
        WicketBoard x = new WicketBoard();
        x.umpire(50, 50, 1, 0);
        for (int g = 0; g < games.length; g++) {
            x.game(games[g][0], games[g][1], 0, 1, 1);
            due("cost(0, " + 2 * g + ")", x.cost(0, 2 * g), games[g][2]);
        }
        WicketBoard ends = new WicketBoard();
        ends.umpire(0, 99, 1, 0);
        ends.game(99, 0, 0, 1, 1);
        due("cost(0, 0) from end to end", ends.cost(0, 0), 198);
    }

    private void mayFar() {
        WicketBoard x = new WicketBoard();
        x.umpire(50, 50, 1, 0);
        int[][] games = {{80, 79}, {80, 80}, {80, 81}, {20, 20}, {19, 20}, {80, 20}, {20, 81}, {50, 50}};
        boolean[] may = {true, true, false, true, false, true, false, true};
        for (int g = 0; g < games.length; g++) {
            x.game(games[g][0], games[g][1], 0, 1, 1);
            due("may(0, " + 2 * g + ") with far 60", x.may(0, 2 * g), may[g]);
            due("may(0, " + (2 * g + 1) + ") with far 60", x.may(0, 2 * g + 1), may[g]);
        }
        say(x, "far 59;");
        due("may(0, 0) of 59 miles with far 59", x.may(0, 0), true);
        due("may(0, 2) of 60 miles with far 59", x.may(0, 2), false);
        say(x, "far 61;");
        due("may(0, 4) of 61 miles with far 61", x.may(0, 4), true);
        WicketBoard ends = new WicketBoard();
        ends.umpire(0, 0, 1, 0);
        ends.game(0, 0, 0, 1, 1);
        ends.game(0, 1, 0, 1, 1);
        ends.game(99, 99, 0, 1, 1);
        int[] far = {0, 1, 197, 198, 200};
        for (int f : far) {
            say(ends, "far " + f + ";");
            due("may of 0 miles with far " + f, ends.may(0, 0), true);
            due("may of 1 mile with far " + f, ends.may(0, 2), f >= 1);
            due("may of 198 miles with far " + f, ends.may(0, 4), f >= 198);
        }
    }

    /** The one UMPIRE stands at a GAME of two CLUBS in this WEEK, which ends. */
    private static void standAt(WicketBoard x, int first, int second) {
        x.game(0, 0, first, second, 1);
        x.send();
        x.next();
    }

    private void mayRow() {
        for (int row = 1; row <= 9; row++) {
            WicketBoard x = boardWith("again 0;row " + row + ";");
            x.umpire(0, 0, 1, 0);
            x.next();
            for (int stood = 0; stood < row; stood++) {
                addGames(x, 1);
                due("may behind " + stood + " weeks of row " + row, x.may(0, 0), true);
                x.send();
                x.next();
            }
            addGames(x, 1);
            due("may behind " + row + " weeks of row " + row, x.may(0, 0), false);
            due("may of the other seat", x.may(0, 1), false);
            due("send()", x.send(), 0);
            say(x, "again 0;row " + Math.min(9, row + 1) + ";");
            due("may with row " + (row + 1), x.may(0, 0), row < 9);
            say(x, "again 0;row " + row + ";");
            x.next();
            addGames(x, 1);
            due("may behind a week of rest", x.may(0, 0), true);
        }
    }

    private void mayRowAtFirst() {
        for (int row = 1; row <= 9; row++) {
            WicketBoard x = boardWith("again 0;row " + row + ";");
            x.umpire(0, 0, 1, 0);
            for (int w = 0; w < row; w++) {
                addGames(x, 1);
                due("may in week " + w + " of row " + row, x.may(0, 0), true);
                x.send();
                x.next();
            }
            addGames(x, 1);
            due("may in week " + row + " of row " + row, x.may(0, 0), false);
        }
    }

    private void mayAgain() {
        for (int again = 0; again <= 9; again++) {
            WicketBoard x = boardWith("row 9;again " + again + ";");
            x.umpire(0, 0, 1, 0);
            standAt(x, 3, 7);
            for (int w = 1; w <= 10; w++) {
                x.game(0, 0, 3, 7, 1);
                due("may " + w + " weeks behind, again " + again, x.may(0, 0), w > again);
                due("may of the other seat", x.may(0, 1), w > again);
                x.next();
            }
        }
        WicketBoard first = boardWith("again 9;");
        first.umpire(0, 0, 1, 0);
        addGames(first, 1);
        due("may in week 0 with again 9", first.may(0, 0), true);
    }

    private void mayAgainClubs() {
        WicketBoard x = new WicketBoard();
        addUmpires(x, 1);
        standAt(x, 0, 11);
        int[][] games = {{0, 11}, {11, 0}, {0, 5}, {5, 0}, {11, 5}, {5, 11}, {1, 10}, {5, 6}};
        for (int g = 0; g < games.length; g++) {
            x.game(0, 0, games[g][0], games[g][1], 1);
            due("may(0, " + 2 * g + ")", x.may(0, 2 * g), g >= 6);
        }
        addUmpires(x, 1);
        due("may of one who did not stand there", x.may(1, 0), true);
    }

    private void costOfWeeks() {
        WicketBoard x = boardWith("row 9;again 0;");
        x.umpire(0, 0, 1, 0);
        for (int stood = 0; stood < 4; stood++) {
            x.game(3, 4, 0, 1, 1);
            due("cost behind " + stood + " weeks", x.cost(0, 0), 7 + 5 * stood);
            due("cost of the other seat", x.cost(0, 1), 7 + 5 * stood);
            x.send();
            due("cost with the seat", x.cost(0, 0), 7 + 5 * stood);
            x.next();
        }
        x.next();
        x.game(0, 0, 0, 1, 1);
        due("cost behind a rest too", x.cost(0, 0), 20);
        int[] fair = {0, 1, 49, 50};
        for (int f : fair) {
            say(x, "fair " + f + ";");
            due("cost with fair " + f, x.cost(0, 0), 4 * f);
        }
    }

    private void newWithoutAny() {
        WicketBoard x = new WicketBoard();
        due("count(1)", x.count(1), 0);
        due("count(2)", x.count(2), 0);
        due("count(3)", x.count(3), 0);
        due("count(4)", x.count(4), 0);
        dueThrow(x, 0, 0);
        due("stood(0, 0)", x.stood(0, 0), NONE);
        due("seat(0)", x.seat(0), NONE);
        due("away(0, 0, true)", x.away(0, 0, true), false);
        due("off(0)", x.off(0), NONE);
        due("mark(0, 0, 0, true)", x.mark(0, 0, 0, true), false);
        due("together()", x.together(), 0);
        due("send()", x.send(), 0);
        due("the first umpire", x.umpire(0, 0, 1, 0), 0);
        due("may(0, 0)", x.may(0, 0), false);
        due("cost(0, 0)", x.cost(0, 0), NONE);
        due("the first game", x.game(0, 0, 0, 1, 1), 0);
    }

    private void newRules() {
        WicketBoard x = new WicketBoard();
        dueRules(x, 3, 1, 60, 5, 2, 1, 80, 30, 4);
        boardWith("row 9;");
        dueRules(new WicketBoard(), 3, 1, 60, 5, 2, 1, 80, 30, 4);
    }

    private void newWeek() {
        WicketBoard x = new WicketBoard();
        due("count(0)", x.count(0), 0);
        x.umpire(0, 0, 1, 0);
        due("stood(0, 0)", x.stood(0, 0), NONE);
        due("away(0, 0, true)", x.away(0, 0, true), true);
        due("next()", x.next(), 1);
    }

    private void newTape() {
        WicketBoard x = new WicketBoard();
        due("count(5)", x.count(5), 0);
        due("end(1)", x.end(1), false);
        due("end(0)", x.end(0), true);
        due("rules()", x.rules(), 0);
        due("feed", x.feed(0, 0, 0, 0, 0), 20);
    }

    private void umpireNumbers() {
        WicketBoard x = new WicketBoard();
        due("umpire", x.umpire(0, 0, 1, 0), 0);
        due("umpire of a wrong number", x.umpire(0, 0, 5, 0), NONE);
        due("umpire", x.umpire(0, 0, 2, 0), 1);
        addGames(x, 1);
        x.send();
        due("umpire with games and seats", x.umpire(0, 0, 3, 0), 2);
        x.next();
        due("umpire in the next week", x.umpire(0, 0, 4, 0), 3);
        for (int u = 0; u < 4; u++) {
            due("about(" + u + ", 0)", x.about(u, 0), u + 1);
        }
        due("about(3, 1)", x.about(3, 1), NONE);
        due("count(1)", x.count(1), 4);
    }

    private void umpireRefused() {
        WicketBoard x = new WicketBoard();
        addUmpires(x, 19);
        int[][] bad = {{-1, 0, 1, 0}, {0, 100, 1, 0}, {0, 0, 0, 0}, {0, 0, 5, 0}, {0, 0, 1, -1}, {0, 0, 1, 4096}};
        for (int[] b : bad) {
            due("umpire of a wrong number", x.umpire(b[0], b[1], b[2], b[3]), NONE);
            due("count(1)", x.count(1), 19);
        }
        due("the 20th umpire", x.umpire(0, 0, 4, 0), 19);
        due("the 21st umpire", x.umpire(0, 0, 1, 0), NONE);
        due("count(1)", x.count(1), 20);
        due("about(19, 0)", x.about(19, 0), 4);
        x.next();
        due("the 21st umpire in the next week", x.umpire(0, 0, 1, 0), NONE);
    }

    private void awayFromNowOn() {
        WicketBoard x = new WicketBoard();
        addUmpires(x, 1);
        for (int w = 0; w < 3; w++) {
            x.next();
        }
        due("away(0, 2, true) of the week gone", x.away(0, 2, true), false);
        due("away(0, 0, true) of the first week", x.away(0, 0, true), false);
        due("away(0, 3, true) of this week", x.away(0, 3, true), true);
        due("away(0, 4, true) of the next week", x.away(0, 4, true), true);
        due("away(0, 98, true)", x.away(0, 98, true), true);
        due("away(0, 99, true)", x.away(0, 99, true), true);
        due("away(0, 100, true)", x.away(0, 100, true), false);
        x.next();
        due("away(0, 3, false) of the week gone", x.away(0, 3, false), false);
        addGames(x, 1);
        due("may(0, 0)", x.may(0, 0), false);
        due("away(0, 4, false)", x.away(0, 4, false), true);
        due("may(0, 0)", x.may(0, 0), true);
    }

    private void awayOther() {
        WicketBoard x = new WicketBoard();
        addUmpires(x, 2);
        for (int w : new int[] {0, 1, 99}) {
            due("away(0, " + w + ", false)", x.away(0, w, false), false);
            due("away(0, " + w + ", true)", x.away(0, w, true), true);
            due("away(0, " + w + ", true) again", x.away(0, w, true), false);
            due("away(1, " + w + ", false)", x.away(1, w, false), false);
            due("away(0, " + w + ", false)", x.away(0, w, false), true);
            due("away(0, " + w + ", false) again", x.away(0, w, false), false);
        }
    }

    private void awayWithoutSuch() {
        WicketBoard x = new WicketBoard();
        addUmpires(x, 3);
        for (int u : new int[] {MIN, -1, 3, 19, 20, MAX}) {
            due("away(" + u + ", 0, true)", x.away(u, 0, true), false);
        }
        for (int w : new int[] {MIN, -1, 100, 101, MAX}) {
            due("away(0, " + w + ", true)", x.away(0, w, true), false);
        }
        due("away(0, 0, true)", x.away(0, 0, true), true);
        due("away(2, 99, true)", x.away(2, 99, true), true);
        due("the umpire who comes is not away", x.umpire(0, 0, 1, 0), 3);
        due("away(3, 0, true)", x.away(3, 0, true), true);
    }

    private void awayWithSeat() {
        WicketBoard x = new WicketBoard();
        addUmpires(x, 17);
        addGames(x, 8);
        due("send()", x.send(), 16);
        for (int u = 0; u < 16; u++) {
            due("away(" + u + ", 0, true) with a seat", x.away(u, 0, true), false);
            due("may(" + u + ", 0)", x.may(u, 0), true);
            due("away(" + u + ", 1, true) with a seat", x.away(u, 1, true), true);
        }
        due("away(16, 0, true) without a seat", x.away(16, 0, true), true);
        due("off(0)", x.off(0), 0);
        due("away(0, 0, false) who cried off", x.away(0, 0, false), true);
        due("away(0, 0, true) who cried off", x.away(0, 0, true), true);
        x.next();
        due("away(1, 1, false) in the next week", x.away(1, 1, false), true);
        WicketBoard last = new WicketBoard();
        addUmpires(last, 1);
        for (int w = 1; w <= 99; w++) {
            last.next();
        }
        addGames(last, 1);
        last.send();
        due("away(0, 99, true) with a seat in week 99", last.away(0, 99, true), false);
    }

    private void gameNumbers() {
        WicketBoard x = new WicketBoard();
        addUmpires(x, 2);
        due("game", x.game(0, 0, 0, 1, 1), 0);
        due("game of a wrong number", x.game(0, 0, 0, 0, 1), NONE);
        due("send()", x.send(), 2);
        due("mark", x.mark(0, 0, 1, true), true);
        due("game behind the marks", x.game(9, 0, 0, 1, 1), 1);
        dueSeats(x, 0, 1, NONE, NONE);
        due("count(3)", x.count(3), 2);
        x.next();
        due("game in the next week", x.game(0, 0, 0, 1, 1), 0);
        dueSeats(x, NONE, NONE);
        due("count(3)", x.count(3), 0);
    }

    private void gameRefused() {
        WicketBoard x = new WicketBoard();
        addGames(x, 7);
        int[][] bad = {
            {-1, 0, 0, 1, 1}, {0, 100, 0, 1, 1}, {0, 0, -1, 1, 1}, {0, 0, 0, 12, 1}, {0, 0, 4, 4, 1},
            {0, 0, 0, 1, 0}, {0, 0, 0, 1, 5},
        };
        for (int[] b : bad) {
            due("game of a wrong number", x.game(b[0], b[1], b[2], b[3], b[4]), NONE);
            due("count(2)", x.count(2), 7);
        }
        due("the 8th game", x.game(0, 0, 0, 1, 1), 7);
        due("the 9th game", x.game(0, 0, 0, 1, 1), NONE);
        due("count(2)", x.count(2), 8);
    }

    private void mayWhoeverHasIt() {
        WicketBoard x = new WicketBoard();
        addUmpires(x, 3);
        addGames(x, 2);
        due("may(2, 0) of an empty seat", x.may(2, 0), true);
        x.send();
        dueSeats(x, 0, 1, 2, NONE);
        due("may(0, 0) of one's own seat", x.may(0, 0), true);
        due("may(0, 1) of another's seat", x.may(0, 1), true);
        due("may(2, 0) of another's seat", x.may(2, 0), true);
        due("may(0, 3) of an empty seat", x.may(0, 3), true);
    }

    private void mayWithoutSuch() {
        WicketBoard x = new WicketBoard();
        due("may(0, 0) without any", x.may(0, 0), false);
        addGames(x, 2);
        due("may(0, 0) without umpires", x.may(0, 0), false);
        addUmpires(x, 3);
        for (int u : new int[] {MIN, -1, 3, 19, 20, MAX}) {
            due("may(" + u + ", 0)", x.may(u, 0), false);
        }
        for (int s : new int[] {MIN, -2, -1, 4, 5, 15, 16, MAX}) {
            due("may(0, " + s + ")", x.may(0, s), false);
        }
        due("may(0, 0)", x.may(0, 0), true);
        due("may(2, 3)", x.may(2, 3), true);
        x.next();
        due("may(0, 0) without games", x.may(0, 0), false);
    }

    private void costWithoutMay() {
        WicketBoard x = new WicketBoard();
        x.umpire(99, 99, 4, 4095);
        x.away(0, 0, true);
        x.game(0, 0, 0, 1, 1);
        due("may(0, 0)", x.may(0, 0), false);
        due("cost(0, 0)", x.cost(0, 0), 198);
        due("cost(0, 1)", x.cost(0, 1), 198);
        x.umpire(60, 0, 1, 0);
        x.umpire(61, 0, 1, 0);
        due("cost(1, 0) of one who may", x.cost(1, 0), 60);
        due("cost(2, 0) of one who may not", x.cost(2, 0), 61);
    }

    private void costWithoutSuch() {
        WicketBoard x = new WicketBoard();
        due("cost(0, 0) without any", x.cost(0, 0), NONE);
        addGames(x, 2);
        due("cost(0, 0) without umpires", x.cost(0, 0), NONE);
        addUmpires(x, 3);
        for (int u : new int[] {MIN, -1, 3, 19, 20, MAX}) {
            due("cost(" + u + ", 0)", x.cost(u, 0), NONE);
        }
        for (int s : new int[] {MIN, -2, -1, 4, 5, 15, 16, MAX}) {
            due("cost(0, " + s + ")", x.cost(0, s), NONE);
        }
        due("cost(0, 0)", x.cost(0, 0), 0);
        due("cost(2, 3)", x.cost(2, 3), 0);
        x.next();
        due("cost(0, 0) without games", x.cost(0, 0), NONE);
    }

    private void seatHolder() {
        WicketBoard x = new WicketBoard();
        addUmpires(x, 16);
        addGames(x, 8);
        x.send();
        for (int s = 0; s < 16; s++) {
            due("seat(" + s + ")", x.seat(s), s);
        }
    }

    private void seatNone() {
        WicketBoard x = new WicketBoard();
        due("seat(0) without games", x.seat(0), NONE);
        addUmpires(x, 15);
        addGames(x, 8);
        due("seat(0) ahead of send()", x.seat(0), NONE);
        x.send();
        due("seat(0)", x.seat(0), 0);
        due("seat(14)", x.seat(14), 14);
        due("seat(15), empty", x.seat(15), NONE);
        for (int s : new int[] {MIN, -1, 16, 17, MAX}) {
            due("seat(" + s + ")", x.seat(s), NONE);
        }
        x.next();
        due("seat(0) without games", x.seat(0), NONE);
        addGames(x, 1);
        for (int s = 0; s < 16; s++) {
            due("seat(" + s + ") in the next week", x.seat(s), NONE);
        }
        say(x, "again 0;");
        x.send();
        due("seat(1)", x.seat(1), 1);
        due("seat(2)", x.seat(2), NONE);
    }

    private void aboutOne() {
        WicketBoard x = boardWith("again 0;of 1;");
        x.umpire(0, 0, 1, 0);
        x.umpire(0, 0, 4, 0);
        int[] first = {1, NONE, 0, 0, 0, 0};
        int[] second = {4, NONE, 0, 0, 0, 0};
        for (int what = 0; what < 6; what++) {
            due("about(0, " + what + ")", x.about(0, what), first[what]);
            due("about(1, " + what + ")", x.about(1, what), second[what]);
        }
        x.game(0, 0, 0, 1, 4);
        x.send();
        due("about(0, 1), seat 0", x.about(0, 1), 0);
        due("about(1, 1), seat 1", x.about(1, 1), 1);
        due("about(0, 2) ahead of the week's end", x.about(0, 2), 0);
        x.off(1);
        due("about(1, 1) who cried off", x.about(1, 1), NONE);
        x.next();
        due("about(0, 1) in the next week", x.about(0, 1), NONE);
        due("about(0, 2)", x.about(0, 2), 1);
        due("about(1, 2)", x.about(1, 2), 0);
        addGames(x, 1);
        x.send();
        x.mark(0, 0, 0, true);
        x.next();
        due("about(0, 2)", x.about(0, 2), 2);
        due("about(0, 0)", x.about(0, 0), 2);
    }

    private void aboutMarks() {
        WicketBoard x = boardWith("won 9;lost 0;of 5;");
        addUmpires(x, 2);
        addGames(x, 1);
        x.send();
        dueMarks(x, 0, 0, 0, 0);
        x.mark(0, 0, 100, true);
        dueMarks(x, 0, 1, 9, 900);
        x.mark(0, 1, 100, false);
        dueMarks(x, 0, 2, 9, 900);
        x.mark(1, 0, 0, true);
        dueMarks(x, 1, 1, 9, 0);
        x.next();
        dueMarks(x, 0, 2, 9, 900);
        dueMarks(x, 1, 1, 9, 0);
    }

    private void aboutAllMarks() {
        int[][] cases = {{0, 0}, {0, 9}, {1, 1}, {9, 0}, {9, 9}};
        for (int[] times : cases) {
            WicketBoard x = boardWith("won " + times[0] + ";lost " + times[1] + ";");
            addUmpires(x, 1);
            addGames(x, 1);
            x.send();
            due("about(0, 5) without marks", x.about(0, 5), 0);
            x.mark(0, 0, 100, true);
            due("about(0, 5)", x.about(0, 5), 100 * times[0]);
            x.mark(0, 1, 1, false);
            due("about(0, 5)", x.about(0, 5), 100 * times[0] + times[1]);
        }
    }

    private void weekThatEnded() {
        WicketBoard x = boardWith("row 9;again 0;");
        addUmpires(x, 1);
        for (int w = 0; w < 3; w++) {
            due("stood(0, " + w + ") ahead of the week", x.stood(0, w), NONE);
            addGames(x, 1);
            x.send();
            due("stood(0, " + w + ") in the week", x.stood(0, w), NONE);
            x.next();
            due("stood(0, " + w + ") behind the week", x.stood(0, w), 3);
            due("stood(0, " + (w + 1) + ")", x.stood(0, w + 1), NONE);
            due("stood(0, 0)", x.stood(0, 0), 3);
        }
    }

    private void aboutThrows() {
        WicketBoard x = new WicketBoard();
        dueThrow(x, 0, 0);
        addUmpires(x, 2);
        for (int u : new int[] {MIN, -1, 2, 19, 20, MAX}) {
            for (int what : new int[] {-1, 0, 5, 6}) {
                dueThrow(x, u, what);
            }
        }
        for (int what : new int[] {MIN, -1, 6, 7, MAX}) {
            dueThrow(x, 0, what);
            dueThrow(x, 1, what);
        }
        due("about(0, 0)", x.about(0, 0), 1);
        due("about(1, 5)", x.about(1, 5), 0);
    }

    private void stoodBits() {
        int[][] clubs = {{0, 1}, {11, 10}, {0, 11}, {5, 2}};
        int[] bits = {3, 3072, 2049, 36};
        WicketBoard x = boardWith("row 9;again 0;");
        addUmpires(x, 1);
        for (int[] pair : clubs) {
            standAt(x, pair[0], pair[1]);
        }
        for (int w = 0; w < clubs.length; w++) {
            due("stood(0, " + w + ")", x.stood(0, w), bits[w]);
        }
        WicketBoard two = new WicketBoard();
        addUmpires(two, 4);
        two.game(0, 0, 0, 1, 1);
        two.game(0, 0, 2, 3, 1);
        two.send();
        two.next();
        int[] each = {3, 3, 12, 12};
        for (int u = 0; u < 4; u++) {
            due("stood(" + u + ", 0)", two.stood(u, 0), each[u]);
        }
    }

    private void didNotStand() {
        WicketBoard x = new WicketBoard();
        addUmpires(x, 2);
        x.next();
        addGames(x, 1);
        x.send();
        x.off(1);
        x.next();
        due("stood(0, 0), a week without games", x.stood(0, 0), 0);
        due("stood(1, 1), who cried off", x.stood(1, 1), 0);
        due("stood(0, 1)", x.stood(0, 1), 3);
        addUmpires(x, 1);
        due("stood(2, 1), who came later", x.stood(2, 1), 0);
    }

    private void stoodNone() {
        WicketBoard x = new WicketBoard();
        due("stood(0, 0) without umpires", x.stood(0, 0), NONE);
        addUmpires(x, 2);
        addGames(x, 1);
        x.send();
        due("stood(0, 0) ahead of the week's end", x.stood(0, 0), NONE);
        x.next();
        due("stood(0, 0)", x.stood(0, 0), 3);
        for (int w : new int[] {MIN, -1, 1, 2, 99, 100, MAX}) {
            due("stood(0, " + w + ")", x.stood(0, w), NONE);
        }
        for (int u : new int[] {MIN, -1, 2, 19, 20, MAX}) {
            due("stood(" + u + ", 0)", x.stood(u, 0), NONE);
        }
        for (int w = 2; w <= 99; w++) {
            x.next();
        }
        due("stood(0, 98) in week 99", x.stood(0, 98), 0);
        due("stood(0, 99) in week 99", x.stood(0, 99), NONE);
        x.next();
        due("stood(0, 99) in week 99", x.stood(0, 99), NONE);
    }

    private void togetherAll() {
        WicketBoard x = new WicketBoard();
        due("together() without games", x.together(), 0);
        for (int u = 0; u < 16; u++) {
            x.umpire(1 + u, 0, 1, 0);
        }
        for (int g = 0; g < 8; g++) {
            x.game(0, 0, 0, 1, 1);
        }
        due("together() of empty seats", x.together(), 0);
        x.send();
        due("together() of all", x.together(), 136);
        due("off(15)", x.off(x.seat(15)), 0);
        due("together() without the last", x.together(), 120);
        due("off(0)", x.off(x.seat(0)), 0);
        due("together() without the first", x.together(), 119);
        x.next();
        due("together() in the next week", x.together(), 0);
        x.game(0, 0, 2, 3, 1);
        x.send();
        due("together() of one who stood and one who did not", x.together(), x.cost(x.seat(0), 0) + x.cost(x.seat(1), 1));
        due("seat(0)", x.seat(0), 0);
        due("seat(1)", x.seat(1), 1);
        due("together()", x.together(), 1 + 2 + 5);
        say(x, "fair 50;");
        due("together() by the rules now", x.together(), 1 + 2 + 50);
    }

    private void counts() {
        WicketBoard x = new WicketBoard();
        for (int what = 0; what < 6; what++) {
            due("count(" + what + ")", x.count(what), 0);
        }
        addUmpires(x, 20);
        addGames(x, 8);
        x.send();
        for (int s = 0; s < 16; s++) {
            x.mark(s, 0, 1, true);
            x.mark(s, 1, 1, true);
            due("count(4)", x.count(4), 2 * s + 2);
        }
        put(x, blanks(180));
        due("count(3) with one who cried off", oneSeatEmpty().count(3), 15);
        int[] full = {0, 20, 8, 16, 32, 180};
        for (int what = 0; what < 6; what++) {
            due("count(" + what + ") of full rows", x.count(what), full[what]);
        }
        x.next();
        int[] then = {1, 20, 0, 0, 0, 180};
        for (int what = 0; what < 6; what++) {
            due("count(" + what + ") in the next week", x.count(what), then[what]);
        }
    }

    private static WicketBoard oneSeatEmpty() {
        WicketBoard x = new WicketBoard();
        addUmpires(x, 16);
        addGames(x, 8);
        x.send();
        x.off(7);
        return x;
    }

    private void countNone() {
        WicketBoard x = midWeek();
        for (int what : new int[] {MIN, -2, -1, 6, 7, MAX}) {
            due("count(" + what + ")", x.count(what), NONE);
        }
        due("count(0)", x.count(0), 1);
        due("count(5)", x.count(5), 20);
    }
}
