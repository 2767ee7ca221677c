/** The boundaries of MARKS and of a WEEK's end: promises 15 and 16 and their terms. */
public final class MarkBoundaries extends Sentences {
    public static void main(String[] args) {
        new MarkBoundaries().report();
    }

    @Override
    void testAll() {
        testMarks();
        testWeeksEnd();
        testNext();
    }

    private void testMarks() {
        sentence("each captain (0 of the first CLUB, 1 of the second) of a GAME", this::captains);
        sentence("gives each SEAT's UMPIRE once", this::onceEach);
        sentence("once 0 to 100", this::zeroToHundred);
        sentence("it counts won times, if that CLUB WON, else lost times", this::wonAndLost);
        sentence("(by RULES as they are then)", this::rulesThen);
        sentence("MEAN: all these, as often as they count, by how often", this::mean);
        sentence("MARKS (0 to 100) of a captain (0, 1)", this::marksOfCaptain);
        sentence("for a SEAT: true; false: no such ones, it is empty, or they were given", this::markRefused);
    }

    private void testWeeksEnd() {
        sentence("those who have SEATS STAND in it", this::stand);
        sentence("each UMPIRE who had as many MARKS as of tells, or more", this::asManyAsOf);
        sentence("since the GRADE was given", this::sinceGrade);
        sentence("some of which count", this::someCount);
        sentence("if MEAN is up at least", this::upAtLeast);
        sentence("and the GRADE above 1: it is one less", this::gradeAboveOne);
        sentence("else, if MEAN is down at most", this::downAtMost);
        sentence("and the GRADE below 4: one more", this::gradeBelowFour);
        sentence("where it has changed, these MARKS are forgotten", this::forgotten);
        sentence("GAMES and SEATS are gone", this::gone);
    }

    private void testNext() {
        sentence("The WEEK ends: WEEK then", this::weekThen);
        sentence("NONE: it is 99", this::lastWeek);
    }

    /** Two UMPIRES of GRADE 1 on the SEATS of one GAME. */
    private static WicketBoard twoSeated(String rules) {
        WicketBoard x = boardWith(rules);
        x.umpire(0, 0, 1, 0);
        x.umpire(0, 0, 1, 0);
        x.game(0, 0, 0, 1, 1);
        x.send();
        return x;
    }

    /** One UMPIRE of a GRADE on SEAT 0 of the GAME of a WEEK; same CLUBS may come each WEEK. */
    private static WicketBoard oneSeated(int grade, String rules) {
        WicketBoard x = boardWith("row 9;again 0;" + rules);
        x.umpire(0, 0, grade, 0);
        seatAgain(x);
        return x;
    }

    private static void seatAgain(WicketBoard x) {
        x.game(0, 0, 0, 1, 4);
        x.send();
    }

    /** Each captain's club WON; the WEEK does not end. */
    private static void give(WicketBoard x, int... marks) {
        for (int captain = 0; captain < marks.length; captain++) {
            x.mark(0, captain, marks[captain], true);
        }
    }

    /** The GRADE behind a WEEK in which captain 0 WON and captain 1 lost. */
    private void dueGrade(int grade, String rules, int won, int lost, int want) {
        WicketBoard x = oneSeated(grade, rules);
        x.mark(0, 0, won, true);
        x.mark(0, 1, lost, false);
        due("about(0, 0) ahead of the week's end", x.about(0, 0), grade);
        x.next();
        due("grade " + grade + ", " + rules + " marks " + won + ", " + lost, x.about(0, 0), want);
    }

    private void captains() {
        for (int captain : new int[] {MIN, -2, -1, 2, 3, MAX}) {
            WicketBoard x = twoSeated("");
            due("mark of captain " + captain, x.mark(0, captain, 50, true), false);
            due("count(4)", x.count(4), 0);
            dueMarks(x, 0, 0, 0, 0);
        }
        WicketBoard x = twoSeated("");
        due("mark of captain 0", x.mark(0, 0, 50, true), true);
        due("mark of captain 1", x.mark(0, 1, 50, true), true);
        due("count(4)", x.count(4), 2);
    }

    private void onceEach() {
        WicketBoard x = twoSeated("");
        due("mark(0, 0)", x.mark(0, 0, 50, true), true);
        due("mark(0, 0) again", x.mark(0, 0, 50, true), false);
        due("mark(0, 0) again with other marks", x.mark(0, 0, 60, false), false);
        dueMarks(x, 0, 1, 2, 100);
        due("mark(0, 1)", x.mark(0, 1, 50, true), true);
        due("mark(1, 0)", x.mark(1, 0, 50, true), true);
        due("mark(1, 1)", x.mark(1, 1, 50, true), true);
        due("mark(1, 1) again", x.mark(1, 1, 50, true), false);
        due("count(4)", x.count(4), 4);
        x.next();
        x.game(0, 0, 2, 3, 1);
        x.send();
        due("mark(0, 0) in the next week", x.mark(0, 0, 50, true), true);
        WicketBoard zero = twoSeated("lost 0;");
        due("mark that counts no times", zero.mark(0, 0, 0, false), true);
        due("mark that counts no times, again", zero.mark(0, 0, 0, true), false);
        allSeats();
    }

    private void allSeats() {
        WicketBoard x = new WicketBoard();
        for (int u = 0; u < 16; u++) {
            x.umpire(0, 0, 1, 0);
        }
        for (int g = 0; g < 8; g++) {
            x.game(0, 0, 0, 1, 1);
        }
        x.send();
        for (int s = 15; s >= 0; s--) {
            for (int captain = 1; captain >= 0; captain--) {
                due("mark(" + s + ", " + captain + ")", x.mark(s, captain, s, false), true);
                due("mark(" + s + ", " + captain + ") again", x.mark(s, captain, s, false), false);
            }
            dueMarks(x, s, 2, 2, 2 * s);
        }
        due("count(4)", x.count(4), 32);
    }

    private void zeroToHundred() {
        for (int marks : new int[] {MIN, -2, -1, 101, 102, MAX}) {
            WicketBoard x = twoSeated("");
            due("mark of " + marks, x.mark(0, 0, marks, true), false);
            due("count(4)", x.count(4), 0);
            dueMarks(x, 0, 0, 0, 0);
            due("mark of 50 behind that", x.mark(0, 0, 50, true), true);
        }
        for (int marks : new int[] {0, 1, 99, 100}) {
            WicketBoard x = twoSeated("");
            due("mark of " + marks, x.mark(0, 0, marks, true), true);
            dueMarks(x, 0, 1, 2, 2 * marks);
        }
    }

    private void wonAndLost() {
        for (int times : new int[] {0, 1, 8, 9}) {
            WicketBoard x = twoSeated("won " + times + ";lost 5;");
            x.mark(0, 0, 100, true);
            dueMarks(x, 0, 1, times, 100 * times);
            x.mark(0, 1, 10, false);
            dueMarks(x, 0, 2, times + 5, 100 * times + 50);
            WicketBoard y = twoSeated("lost " + times + ";won 5;");
            y.mark(1, 0, 100, false);
            dueMarks(y, 1, 1, times, 100 * times);
            y.mark(1, 1, 10, true);
            dueMarks(y, 1, 2, times + 5, 100 * times + 50);
        }
    }

    private void rulesThen() {
        WicketBoard x = twoSeated("won 3;lost 4;");
        x.mark(0, 0, 10, true);
        x.mark(1, 0, 10, false);
        say(x, "won 9;lost 0;");
        dueMarks(x, 0, 1, 3, 30);
        dueMarks(x, 1, 1, 4, 40);
        x.mark(0, 1, 10, true);
        x.mark(1, 1, 10, false);
        dueMarks(x, 0, 2, 12, 120);
        dueMarks(x, 1, 2, 4, 40);
        WicketBoard zero = oneSeated(2, "won 0;of 1;");
        zero.mark(0, 0, 100, true);
        say(zero, "won 9;of 1;");
        zero.next();
        due("about(0, 0): it counts no times as it did not then", zero.about(0, 0), 2);
        WicketBoard one = oneSeated(2, "won 1;of 1;");
        one.mark(0, 0, 100, true);
        say(one, "won 0;of 1;");
        one.next();
        due("about(0, 0): it counts once as it did then", one.about(0, 0), 1);
    }

    private void mean() {
        dueGrade(3, "of 2;won 2;lost 1;", 100, 40, 2);
        dueGrade(3, "of 2;won 2;lost 1;", 100, 39, 3);
        dueGrade(3, "of 2;won 2;lost 1;", 40, 100, 3);
        dueGrade(3, "of 2;won 1;lost 2;", 40, 100, 2);
        dueGrade(3, "of 2;won 1;lost 1;", 100, 60, 2);
        dueGrade(3, "of 2;won 1;lost 1;", 100, 59, 3);
        dueGrade(3, "of 2;won 0;lost 1;", 0, 80, 2);
        dueGrade(3, "of 2;won 0;lost 1;", 100, 79, 3);
        dueGrade(3, "of 2;won 9;lost 0;", 80, 0, 2);
        dueGrade(3, "of 2;won 9;lost 0;", 79, 100, 3);
    }

    /** Each captain's MARKS at the bounds, for each SEAT. */
    private void marksOfCaptain() {
        int[] marks = {-1, 0, 100, 101};
        for (int seat = 0; seat < 2; seat++) {
            for (int captain = -1; captain <= 2; captain++) {
                for (int n : marks) {
                    WicketBoard x = twoSeated("");
                    boolean good = captain >= 0 && captain <= 1 && n >= 0 && n <= 100;
                    due("mark(" + seat + ", " + captain + ", " + n + ")", x.mark(seat, captain, n, false), good);
                    dueMarks(x, seat, good ? 1 : 0, good ? 1 : 0, good ? n : 0);
                    dueMarks(x, 1 - seat, 0, 0, 0);
                }
            }
        }
    }

    private void markRefused() {
        WicketBoard x = boardWith("");
        due("mark without games", x.mark(0, 0, 50, true), false);
        x.umpire(0, 0, 1, 0);
        x.game(0, 0, 0, 1, 1);
        x.game(0, 0, 0, 1, 1);
        due("mark ahead of send()", x.mark(0, 0, 50, true), false);
        x.send();
        for (int s : new int[] {MIN, -1, 1, 2, 3, 4, 5, 16, 32, MAX}) {
            due("mark of seat " + s, x.mark(s, 0, 50, true), false);
        }
        due("count(4)", x.count(4), 0);
        due("mark of seat 0", x.mark(0, 0, 50, true), true);
        due("mark of seat 0 again", x.mark(0, 0, 50, true), false);
        due("count(4)", x.count(4), 1);
        dueMarks(x, 0, 1, 2, 100);
        x.next();
        due("mark without games in the next week", x.mark(0, 0, 50, true), false);
        x.game(0, 0, 2, 3, 1);
        due("mark of an empty seat in the next week", x.mark(0, 0, 50, true), false);
        x.send();
        x.off(0);
        due("mark of a seat that is empty by off", x.mark(0, 0, 50, true), false);
    }

    private void stand() {
        WicketBoard x = boardWith("");
        for (int u = 0; u < 3; u++) {
            x.umpire(0, 0, 1, 0);
        }
        x.game(0, 0, 0, 11, 1);
        x.game(0, 0, 5, 6, 1);
        x.send();
        x.off(1);
        dueSeats(x, 0, NONE, 2, NONE);
        x.next();
        int[] clubs = {2049, 0, 96};
        for (int u = 0; u < 3; u++) {
            due("stood(" + u + ", 0)", x.stood(u, 0), clubs[u]);
            due("about(" + u + ", 2)", x.about(u, 2), clubs[u] == 0 ? 0 : 1);
        }
        x.game(0, 0, 0, 1, 1);
        x.next();
        for (int u = 0; u < 3; u++) {
            due("stood(" + u + ", 1), a week without send()", x.stood(u, 1), 0);
            due("about(" + u + ", 2)", x.about(u, 2), clubs[u] == 0 ? 0 : 1);
        }
        WicketBoard all = boardWith("");
        for (int u = 0; u < 16; u++) {
            all.umpire(0, 0, 1, 0);
        }
        for (int g = 0; g < 8; g++) {
            all.game(0, 0, g, g + 1, 1);
        }
        all.send();
        all.next();
        for (int u = 0; u < 16; u++) {
            due("stood(" + u + ", 0)", all.stood(u, 0), 3 << u / 2);
        }
    }

    private void asManyAsOf() {
        WicketBoard none = oneSeated(3, "of 1;up 1;");
        none.next();
        due("about(0, 0) without marks, of 1", none.about(0, 0), 3);
        WicketBoard one = oneSeated(3, "of 1;");
        give(one, 100);
        one.next();
        due("about(0, 0) with 1 mark, of 1", one.about(0, 0), 2);
        for (int marks = 1; marks <= 4; marks++) {
            WicketBoard x = oneSeated(3, "of 3;");
            if (marks > 2) {
                give(x, 50, 100);
                x.next();
                seatAgain(x);
                say(x, "row 9;again 0;of 3;up 75;");
            }
            give(x, marks % 2 == 0 ? new int[] {100, 100} : new int[] {100});
            x.next();
            due("about(0, 0) with " + marks + " marks, of 3", x.about(0, 0), marks >= 3 ? 2 : 3);
        }
        twentyMarks();
        withoutSeat();
    }

    private void twentyMarks() {
        WicketBoard x = oneSeated(3, "of 20;");
        for (int w = 0; w < 9; w++) {
            give(x, 100, 100);
            x.next();
            seatAgain(x);
        }
        due("count(3), a week of rest", x.count(3), 0);
        x.next();
        seatAgain(x);
        give(x, 100);
        x.next();
        dueMarks(x, 0, 19, 38, 3800);
        due("about(0, 0) with 19 marks, of 20", x.about(0, 0), 3);
        seatAgain(x);
        give(x, 100);
        x.next();
        due("about(0, 0) with 20 marks, of 20", x.about(0, 0), 2);
        dueMarks(x, 0, 0, 0, 0);
    }

    /** The RULES at the WEEK's end tell, also for one who has no SEAT in it. */
    private void withoutSeat() {
        WicketBoard x = oneSeated(3, "of 3;");
        give(x, 100, 100);
        x.next();
        due("about(0, 0) with 2 marks, of 3", x.about(0, 0), 3);
        say(x, "of 2;");
        due("about(0, 0) ahead of the week's end", x.about(0, 0), 3);
        x.next();
        due("about(0, 0) with 2 marks, of 2", x.about(0, 0), 2);
        WicketBoard last = boardWith("of 1;");
        for (int u = 0; u < 20; u++) {
            last.umpire(u < 19 ? 61 : 0, 0, 4, 0);
        }
        seatAgain(last);
        give(last, 100);
        last.next();
        due("about(19, 0)", last.about(19, 0), 3);
        due("about(18, 0)", last.about(18, 0), 4);
    }

    private void sinceGrade() {
        WicketBoard x = oneSeated(4, "of 2;");
        give(x, 100, 100);
        x.next();
        due("about(0, 0)", x.about(0, 0), 3);
        seatAgain(x);
        give(x, 100);
        x.next();
        due("about(0, 0) with one mark since", x.about(0, 0), 3);
        dueMarks(x, 0, 1, 2, 200);
        seatAgain(x);
        give(x, 100);
        x.next();
        due("about(0, 0) with two marks since", x.about(0, 0), 2);
        dueMarks(x, 0, 0, 0, 0);
        x.next();
        due("about(0, 0) without marks since", x.about(0, 0), 2);
        seatAgain(x);
        give(x, 0, 0);
        x.next();
        due("about(0, 0) by the marks since alone", x.about(0, 0), 3);
    }

    private void someCount() {
        dueGrade(3, "of 2;won 0;lost 0;", 100, 100, 3);
        dueGrade(3, "of 2;won 0;lost 0;", 0, 0, 3);
        dueGrade(3, "of 2;won 0;lost 0;down 100;", 50, 50, 3);
        dueGrade(3, "of 2;won 0;lost 1;", 100, 100, 2);
        dueGrade(3, "of 2;won 0;lost 1;", 0, 0, 4);
        dueGrade(3, "of 2;won 1;lost 0;", 100, 100, 2);
        dueGrade(3, "of 2;won 1;lost 0;", 0, 0, 4);
        WicketBoard x = oneSeated(3, "of 2;won 0;lost 0;");
        give(x, 100, 100);
        x.next();
        dueMarks(x, 0, 2, 0, 0);
    }

    private void upAtLeast() {
        dueGrade(3, "of 2;won 9;", 80, 79, 3);
        dueGrade(3, "of 2;won 9;", 80, 80, 2);
        dueGrade(3, "of 2;won 9;", 80, 81, 2);
        dueGrade(3, "of 2;won 9;", 79, 88, 3);
        dueGrade(3, "of 2;won 9;", 79, 89, 2);
        dueGrade(3, "of 2;up 1;down 0;", 1, 1, 2);
        dueGrade(3, "of 2;up 1;down 0;", 1, 0, 3);
        dueGrade(3, "of 2;up 100;", 100, 100, 2);
        dueGrade(3, "of 2;up 100;", 100, 99, 3);
        dueGrade(3, "of 2;up 101;", 100, 100, 3);
    }

    private void gradeAboveOne() {
        for (int grade = 1; grade <= 4; grade++) {
            dueGrade(grade, "of 2;", 100, 100, Math.max(1, grade - 1));
        }
        WicketBoard x = oneSeated(1, "of 2;");
        give(x, 100, 100);
        x.next();
        dueMarks(x, 0, 2, 4, 400);
    }

    private void downAtMost() {
        dueGrade(3, "of 2;won 9;", 30, 31, 3);
        dueGrade(3, "of 2;won 9;", 30, 30, 4);
        dueGrade(3, "of 2;won 9;", 30, 29, 4);
        dueGrade(3, "of 2;won 9;", 31, 22, 3);
        dueGrade(3, "of 2;won 9;", 31, 21, 4);
        dueGrade(3, "of 2;down 0;", 0, 0, 4);
        dueGrade(3, "of 2;down 0;", 0, 1, 3);
        dueGrade(3, "of 2;down 100;up 101;", 100, 100, 4);
        dueGrade(3, "of 2;down 99;up 101;", 99, 100, 3);
        dueGrade(3, "of 2;down 50;up 50;", 50, 50, 2);
        dueGrade(3, "of 2;down 50;up 51;", 50, 50, 4);
        dueGrade(1, "of 2;down 50;up 50;", 50, 50, 2);
    }

    private void gradeBelowFour() {
        for (int grade = 1; grade <= 4; grade++) {
            dueGrade(grade, "of 2;", 0, 0, Math.min(4, grade + 1));
        }
        WicketBoard x = oneSeated(4, "of 2;");
        give(x, 1, 2);
        x.next();
        dueMarks(x, 0, 2, 4, 6);
    }

    private void forgotten() {
        int[][] cases = {{2, 100, 0}, {2, 80, 0}, {2, 79, 2}, {2, 31, 2}, {2, 30, 0}, {2, 0, 0}, {1, 100, 2}, {4, 0, 2}};
        for (int[] c : cases) {
            WicketBoard x = oneSeated(c[0], "of 2;");
            give(x, c[1], c[1]);
            dueMarks(x, 0, 2, 4, 4 * c[1]);
            x.next();
            dueMarks(x, 0, c[2], 2 * c[2], 2 * c[1] * c[2]);
        }
        WicketBoard two = boardWith("of 2;");
        two.umpire(0, 0, 2, 0);
        two.umpire(0, 0, 2, 0);
        two.game(0, 0, 0, 1, 2);
        two.send();
        two.mark(0, 0, 100, true);
        two.mark(0, 1, 100, true);
        two.mark(1, 0, 100, true);
        two.next();
        dueMarks(two, 0, 0, 0, 0);
        dueMarks(two, 1, 1, 2, 200);
    }

    private void gone() {
        WicketBoard x = twoSeated("");
        x.game(0, 0, 2, 3, 1);
        x.mark(0, 0, 50, true);
        x.next();
        due("count(2)", x.count(2), 0);
        due("count(3)", x.count(3), 0);
        due("count(4)", x.count(4), 0);
        dueSeats(x, NONE, NONE, NONE, NONE);
        due("about(0, 1)", x.about(0, 1), NONE);
        due("about(1, 1)", x.about(1, 1), NONE);
        due("may(0, 0)", x.may(0, 0), false);
        due("cost(0, 0)", x.cost(0, 0), NONE);
        due("together()", x.together(), 0);
        due("send()", x.send(), 0);
        x.game(9, 0, 4, 5, 1);
        dueSeats(x, NONE, NONE, NONE, NONE);
        due("cost(0, 0) of the new game", x.cost(0, 0), 9 + 5);
        due("cost(0, 2)", x.cost(0, 2), NONE);
    }

    private void weekThen() {
        WicketBoard x = new WicketBoard();
        for (int w = 1; w <= 99; w++) {
            due("next()", x.next(), w);
            due("count(0)", x.count(0), w);
        }
    }

    private void lastWeek() {
        WicketBoard x = boardWith("of 1;");
        x.umpire(0, 0, 2, 0);
        for (int w = 1; w < 99; w++) {
            x.next();
        }
        due("count(0)", x.count(0), 98);
        due("next() of 98", x.next(), 99);
        seatAgain(x);
        give(x, 100, 100);
        due("next() of 99", x.next(), NONE);
        due("next() of 99 again", x.next(), NONE);
        due("count(0)", x.count(0), 99);
        due("count(2)", x.count(2), 1);
        due("count(4)", x.count(4), 2);
        dueSeats(x, 0, NONE);
        due("about(0, 0)", x.about(0, 0), 2);
        due("about(0, 2)", x.about(0, 2), 0);
        dueMarks(x, 0, 2, 4, 400);
        due("stood(0, 99)", x.stood(0, 99), NONE);
    }
}
