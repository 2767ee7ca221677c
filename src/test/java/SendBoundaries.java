import java.util.Random;

/**
 * The boundaries of who is SENT and of OFF: promises 12 and 13 and their terms. Most boards here have
 * UMPIRES of GRADE 2 and GAMES of LEVEL 1, so that each GAME has one SEAT that they MAY have, 2 g + 1.
 */
public final class SendBoundaries extends Sentences {
    /** The CLUBS of the GAMES 0, 1 and 2 of these boards, as bits. */
    private static final int G0 = 3;
    private static final int G1 = 12;
    private static final int G2 = 48;

    public static void main(String[] args) {
        new SendBoundaries().report();
    }

    @Override
    void testAll() {
        testSent();
        testSend();
        testTermsOfOff();
        testOff();
    }

    private void testSent() {
        sentence("each UMPIRE has one SEAT at most", this::oneSeatAtMost);
        sentence("as many SEATS are filled as can be", this::asManyAsCanBe);
        sentence("of such the least COST together", this::leastCost);
        sentence("of like ones the first: by rising SEATS each one the least UMPIRE", this::firstOfLike);
        sentence("one that is empty last", this::emptyLast);
    }

    private void testSend() {
        sentence("All SEATS are SENT anew", this::sentAnew);
        sentence("how many are filled", this::howManyFilled);
        sentence("NONE, and nothing is changed, if there are MARKS of this WEEK", this::sendWithMarks);
    }

    private void testTermsOfOff() {
        sentence("one who has a SEAT cries off, and is AWAY then", this::awayThen);
        sentence("that SEAT is filled by the one who MAY have it, has none, and COSTS least", this::cheapestFree);
        sentence("(of like ones the least number)", this::leastNumber);
        sentence("else, if there is none, by one who has another SEAT", this::moveIfThereIsNone);
        sentence("whose is filled so by one who has none", this::leftIsFilled);
        sentence("the least COST of both together", this::leastOfBoth);
        sentence("(less what the one COST who moves on the SEAT that is left)", this::lessWhatItCost);
        sentence("of like ones the least SEAT that is left", this::leastSeatLeft);
        sentence("then the least number of who fills that", this::leastFiller);
        sentence("else it is empty", this::elseEmpty);
    }

    private void testOff() {
        sentence("2 by a move of another one, 1 by one who had none, 0 the SEAT is empty", this::offAnswers);
        sentence("NONE: no such one, without a SEAT, or there are MARKS of this WEEK", this::offNone);
    }

    /** GAMES of LEVEL 1 at these x, the CLUBS of GAME g being 2 g and 2 g + 1. */
    private static void addGames(WicketBoard x, int... places) {
        for (int g = 0; g < places.length; g++) {
            x.game(places[g], 0, 2 * g, 2 * g + 1, 1);
        }
    }

    private static void addUmpires(WicketBoard x, int n) {
        for (int u = 0; u < n; u++) {
            x.umpire(0, 0, 1, 0);
        }
    }

    private static WicketBoard fullBoard(int umpires, int games) {
        WicketBoard x = new WicketBoard();
        addUmpires(x, umpires);
        for (int g = 0; g < games; g++) {
            x.game(0, 0, 0, 1, 1);
        }
        return x;
    }

    private void oneSeatAtMost() {
        for (int umpires : new int[] {0, 1, 2, 15, 16, 17, 20}) {
            WicketBoard x = fullBoard(umpires, 8);
            due("send() of " + umpires, x.send(), Math.min(16, umpires));
            for (int s = 0; s < 16; s++) {
                due("seat(" + s + ") of " + umpires, x.seat(s), s < umpires ? s : NONE);
            }
            for (int u = 0; u < umpires; u++) {
                due("about(" + u + ", 1)", x.about(u, 1), u < 16 ? u : NONE);
            }
        }
        WicketBoard x = fullBoard(2, 1);
        due("send()", x.send(), 2);
        dueSeats(x, 0, 1);
    }

    private void asManyAsCanBe() {
        for (int miles : new int[] {59, 60, 61}) {
            WicketBoard x = new WicketBoard();
            x.umpire(30, 0, 2, 0);
            x.umpire(30, miles, 2, G1);
            addGames(x, 30, 90);
            due("send(), the other " + miles + " miles off", x.send(), miles <= 60 ? 2 : 1);
            dueSeats(x, NONE, miles <= 60 ? 1 : 0, NONE, miles <= 60 ? 0 : NONE);
        }
        longChain();
        dearOnes();
    }

    /** UMPIRE i MAY have the SEATS of GAME i and i + 1 alone; the one of GAME 0 alone moves them all. */
    private void longChain() {
        WicketBoard x = boardWith("far 6;");
        for (int i = 0; i < 8; i++) {
            x.game(12 * i, 0, i, i + 1, 1);
        }
        for (int i = 0; i < 7; i++) {
            x.umpire(12 * i + 6, 0, 2, 0);
        }
        due("send() of seven", x.send(), 7);
        for (int g = 0; g < 8; g++) {
            due("seat(" + (2 * g + 1) + ")", x.seat(2 * g + 1), g < 7 ? g : NONE);
        }
        x.umpire(0, 6, 2, 0);
        due("send() of eight", x.send(), 8);
        for (int g = 0; g < 8; g++) {
            due("seat(" + (2 * g + 1) + ")", x.seat(2 * g + 1), g == 0 ? 7 : g - 1);
        }
    }

    /** UMPIRE 0 stood in 89 WEEKS, and is sent although that costs more than all else. */
    private void dearOnes() {
        WicketBoard x = boardWith("row 9;again 0;fair 50;far 200;");
        x.umpire(99, 0, 2, G1);
        for (int w = 0; w < 98; w++) {
            x.game(99, 0, 0, 1, 1);
            x.send();
            x.next();
        }
        due("about(0, 2)", x.about(0, 2), 89);
        x.umpire(0, 99, 2, 0);
        x.umpire(0, 99, 2, 0);
        x.away(2, 98, true);
        addGames(x, 0, 99);
        due("send()", x.send(), 2);
        dueSeats(x, NONE, 0, NONE, 1);
        due("together()", x.together(), 50 * 89 + 99 + 99 + 99);
        x.away(2, 98, false);
        due("send() with one who costs less", x.send(), 2);
        dueSeats(x, NONE, 1, NONE, 2);
    }

    private void leastCost() {
        for (int miles = 10; miles <= 11; miles++) {
            for (int other = miles - 1; other <= miles + 1; other++) {
                oneOfTwo(miles, other);
            }
        }
        crossedOnes();
        turnedOnes();
    }

    /** Two UMPIRES for one SEAT, and two SEATS for one UMPIRE, of unlike miles. */
    private void oneOfTwo(int miles, int other) {
        WicketBoard x = new WicketBoard();
        x.umpire(miles, 0, 2, 0);
        x.umpire(other, 0, 2, 0);
        addGames(x, 0);
        due("send()", x.send(), 1);
        dueSeats(x, NONE, other < miles ? 1 : 0);
        due("together()", x.together(), Math.min(miles, other));
        WicketBoard y = new WicketBoard();
        y.umpire(50, 0, 2, 0);
        addGames(y, 50 - miles, 50 + other);
        due("send()", y.send(), 1);
        dueSeats(y, NONE, other < miles ? NONE : 0, NONE, other < miles ? 0 : NONE);
        due("together()", y.together(), Math.min(miles, other));
    }

    /** One who lives 31, 0 is two miles the nearer to the second GAME. */
    private void crossedOnes() {
        int[][] places = {{10, 31}, {10, 30}, {31, 10}, {30, 10}};
        int[] first = {0, 0, 1, 0};
        int[] together = {20 + 9, 20 + 10, 20 + 9, 10 + 20};
        for (int i = 0; i < places.length; i++) {
            WicketBoard x = new WicketBoard();
            x.umpire(places[i][0], 0, 2, 0);
            x.umpire(places[i][1], 0, 2, 0);
            addGames(x, 30, 40);
            due("send()", x.send(), 2);
            dueSeats(x, NONE, first[i], NONE, 1 - first[i]);
            due("together()", x.together(), together[i]);
        }
    }

    private void turnedOnes() {
        WicketBoard x = new WicketBoard();
        x.umpire(20, 0, 2, 0);
        x.umpire(40, 0, 2, 0);
        x.umpire(0, 0, 2, 0);
        addGames(x, 0, 20, 40);
        due("send()", x.send(), 3);
        dueSeats(x, NONE, 2, NONE, 0, NONE, 1);
        due("together()", x.together(), 0);
        WicketBoard near = new WicketBoard();
        near.umpire(12, 0, 2, 0);
        near.umpire(0, 0, 2, 0);
        addGames(near, 10, 30);
        due("send(): the nearest to the first game is not its", near.send(), 2);
        dueSeats(near, NONE, 1, NONE, 0);
        due("together()", near.together(), 28);
    }

    /** UMPIRE 0 MAY have both, 1 the first and 2 the second alone, which is this many miles off. */
    private static WicketBoard threeForTwo(int milesOfLast) {
        WicketBoard x = new WicketBoard();
        x.umpire(20, 10, 2, 0);
        x.umpire(20, 10, 2, G1);
        x.umpire(20, milesOfLast, 2, G0);
        addGames(x, 20, 20);
        return x;
    }

    private void firstOfLike() {
        int[] miles = {9, 10, 11};
        int[] first = {0, 0, 1};
        int[] second = {2, 2, 0};
        for (int i = 0; i < miles.length; i++) {
            WicketBoard x = threeForTwo(miles[i]);
            due("send(), the last " + miles[i] + " miles off", x.send(), 2);
            dueSeats(x, NONE, first[i], NONE, second[i]);
        }
        WicketBoard all = fullBoard(20, 8);
        due("send()", all.send(), 16);
        dueSeats(all, 0, 1, 2, 3, 4, 5, 6, 7, 8, 9, 10, 11, 12, 13, 14, 15);
        due("send() again", all.send(), 16);
        dueSeats(all, 0, 1, 2, 3, 4, 5, 6, 7, 8, 9, 10, 11, 12, 13, 14, 15);
        WicketBoard x = new WicketBoard();
        x.umpire(0, 0, 2, G0);
        x.umpire(0, 0, 2, G0 | G2);
        x.umpire(0, 0, 2, 0);
        addGames(x, 0, 0, 0);
        due("send(): the least who leaves one for each", x.send(), 3);
        dueSeats(x, NONE, 2, NONE, 1, NONE, 0);
        for (int seed = 0; seed < 60; seed++) {
            firstOfAllWays(seed, 6, 2);
            firstOfAllWays(seed, 6, 3);
        }
    }

    /** Boards on which many ways are alike, against a trial of every way. */
    private void firstOfAllWays(int seed, int umpires, int games) {
        Random dice = new Random(seed);
        WicketBoard x = new WicketBoard();
        for (int u = 0; u < umpires; u++) {
            x.umpire(dice.nextInt(3), 0, 1 + dice.nextInt(3), 1 << dice.nextInt(6));
        }
        for (int g = 0; g < games; g++) {
            x.game(dice.nextInt(3), 0, dice.nextInt(3), 3 + dice.nextInt(3), 1 + dice.nextInt(2));
        }
        AllWays ways = new AllWays(x, umpires, 2 * games);
        x.send();
        for (int s = 0; s < 2 * games; s++) {
            due("seat(" + s + ") of board " + seed, x.seat(s), ways.first[s]);
        }
    }

    /** Tries every way to fill the SEATS, in the order of the document; the first of the best stays. */
    private static final class AllWays {
        final int[] first;
        private final int[][] price;
        private final int[] now;
        private int mostFilled = -1;
        private int leastCost;

        AllWays(WicketBoard x, int umpires, int seats) {
            first = new int[seats];
            now = new int[seats];
            price = new int[seats][umpires];
            for (int s = 0; s < seats; s++) {
                for (int u = 0; u < umpires; u++) {
                    price[s][u] = x.may(u, s) ? x.cost(u, s) : NONE;
                }
            }
            fillFrom(0, 0, 0, 0);
        }

        private void fillFrom(int seat, int taken, int filled, int cost) {
            if (seat == now.length) {
                if (filled > mostFilled || filled == mostFilled && cost < leastCost) {
                    mostFilled = filled;
                    leastCost = cost;
                    System.arraycopy(now, 0, first, 0, now.length);
                }
                return;
            }
            for (int u = 0; u < price[seat].length; u++) {
                if ((taken & 1 << u) == 0 && price[seat][u] != NONE) {
                    now[seat] = u;
                    fillFrom(seat + 1, taken | 1 << u, filled + 1, cost + price[seat][u]);
                }
            }
            now[seat] = NONE;
            fillFrom(seat + 1, taken, filled, cost);
        }
    }

    private void emptyLast() {
        WicketBoard one = new WicketBoard();
        one.umpire(0, 0, 1, 0);
        one.game(0, 0, 0, 1, 1);
        due("send()", one.send(), 1);
        dueSeats(one, 0, NONE);
        int[] miles = {9, 10, 11};
        for (int off : miles) {
            WicketBoard x = new WicketBoard();
            x.umpire(50, 0, 2, G0 | G2);
            x.umpire(50, 0, 2, G1);
            addGames(x, 40, 50, 50 + off);
            due("send(), the last game " + off + " miles off", x.send(), 2);
            dueSeats(x, NONE, off < 10 ? NONE : 1, NONE, 0, NONE, off < 10 ? 1 : NONE);
        }
        WicketBoard last = new WicketBoard();
        for (int u = 0; u < 19; u++) {
            last.umpire(0, 0, 4, 0);
        }
        last.umpire(0, 0, 2, 0);
        addGames(last, 0, 0);
        due("send()", last.send(), 1);
        dueSeats(last, NONE, 19, NONE, NONE);
        for (int seed = 0; seed < 60; seed++) {
            firstOfAllWays(seed, 3, 2);
            firstOfAllWays(seed, 4, 3);
        }
    }

    private void sentAnew() {
        WicketBoard x = new WicketBoard();
        x.umpire(10, 0, 2, 0);
        addGames(x, 0);
        due("send()", x.send(), 1);
        dueSeats(x, NONE, 0);
        x.umpire(9, 0, 2, 0);
        dueSeats(x, NONE, 0);
        due("send() with a nearer one", x.send(), 1);
        dueSeats(x, NONE, 1);
        due("about(0, 1)", x.about(0, 1), NONE);
        say(x, "far 8;");
        dueSeats(x, NONE, 1);
        due("send() when none may", x.send(), 0);
        dueSeats(x, NONE, NONE);
        due("about(1, 1)", x.about(1, 1), NONE);
        due("together()", x.together(), 0);
        say(x, "");
        x.game(9, 0, 2, 3, 1);
        due("send() with one more game", x.send(), 2);
        dueSeats(x, NONE, 0, NONE, 1);
        due("send() without a change", x.send(), 2);
        dueSeats(x, NONE, 0, NONE, 1);
        for (int seed = 0; seed < 2000; seed++) {
            sentAgainAndAgain(seed);
        }
    }

    /** One board that changes from send() to send(), each against a trial of every way. */
    private void sentAgainAndAgain(int seed) {
        Random dice = new Random(seed);
        WicketBoard x = new WicketBoard();
        for (int round = 0; round < 5; round++) {
            x.umpire(dice.nextInt(20), dice.nextInt(9), 1 + dice.nextInt(3), 1 << dice.nextInt(6));
            if (dice.nextBoolean()) {
                x.next();
            }
            for (int games = 1 + dice.nextInt(3); x.count(2) < games; ) {
                x.game(dice.nextInt(20), dice.nextInt(9), dice.nextInt(3), 3 + dice.nextInt(3), 1 + dice.nextInt(3));
            }
            say(x, "again 0;far " + (5 + dice.nextInt(20)) + ";");
            int seats = 2 * x.count(2);
            AllWays ways = new AllWays(x, x.count(1), seats);
            x.send();
            for (int s = 0; s < seats; s++) {
                due("seat(" + s + ") of board " + seed + " in round " + round, x.seat(s), ways.first[s]);
            }
        }
    }

    private void howManyFilled() {
        due("send() without any", new WicketBoard().send(), 0);
        due("send() without games", fullBoard(3, 0).send(), 0);
        due("send() without umpires", fullBoard(0, 3).send(), 0);
        for (int n = 1; n <= 17; n++) {
            WicketBoard x = fullBoard(n, 8);
            due("send() of " + n, x.send(), Math.min(n, 16));
            due("count(3)", x.count(3), Math.min(n, 16));
        }
        WicketBoard barred = new WicketBoard();
        barred.umpire(0, 0, 1, 4095);
        addGames(barred, 0);
        due("send() when none may", barred.send(), 0);
    }

    private void sendWithMarks() {
        WicketBoard x = boardWith("lost 0;");
        x.umpire(10, 0, 2, 0);
        addGames(x, 0);
        x.send();
        x.umpire(0, 0, 2, 0);
        due("a mark that counts no times", x.mark(1, 0, 0, false), true);
        due("send() with marks", x.send(), NONE);
        dueSeats(x, NONE, 0);
        due("about(1, 1)", x.about(1, 1), NONE);
        due("count(3)", x.count(3), 1);
        due("count(4)", x.count(4), 1);
        dueMarks(x, 0, 1, 0, 0);
        x.next();
        due("send() in the next week", x.send(), 0);
        x.game(0, 0, 2, 3, 1);
        due("send() in the next week", x.send(), 1);
        dueSeats(x, NONE, 1);
        WicketBoard last = fullBoard(16, 8);
        last.send();
        due("a mark of the last seat by the second captain", last.mark(15, 1, 5, true), true);
        due("send() with marks", last.send(), NONE);
        WicketBoard refused = fullBoard(2, 1);
        refused.send();
        due("a mark that is refused", refused.mark(0, 0, 101, true), false);
        due("send() without marks", refused.send(), 2);
    }

    private void awayThen() {
        WicketBoard x = fullBoard(1, 1);
        x.send();
        due("off(0)", x.off(0), 0);
        due("may(0, 0)", x.may(0, 0), false);
        due("may(0, 1)", x.may(0, 1), false);
        due("about(0, 1)", x.about(0, 1), NONE);
        due("send()", x.send(), 0);
        due("away(0, 0, true), which one is", x.away(0, 0, true), false);
        due("away(0, 1, false), which one is not", x.away(0, 1, false), false);
        x.next();
        x.game(0, 0, 0, 1, 1);
        due("may(0, 0) in the next week", x.may(0, 0), true);
        due("send() in the next week", x.send(), 1);
        x.off(0);
        due("away(0, 1, false)", x.away(0, 1, false), true);
        due("send(), not away any more", x.send(), 1);
        WicketBoard last = fullBoard(2, 0);
        for (int w = 1; w <= 99; w++) {
            last.next();
        }
        last.game(0, 0, 0, 1, 1);
        due("send() in week 99", last.send(), 2);
        due("off(0) in week 99", last.off(0), 0);
        due("may(0, 0) in week 99", last.may(0, 0), false);
    }

    /** One GAME at 0, 0 whose SEAT 1 has UMPIRE 0, and another one far off whose SEAT 3 has UMPIRE 1. */
    private static WicketBoard oneCriesOff() {
        WicketBoard x = new WicketBoard();
        x.umpire(0, 0, 2, G1);
        x.umpire(1, 0, 2, 0);
        addGames(x, 0, 50);
        x.send();
        return x;
    }

    private void cheapestFree() {
        for (int other : new int[] {9, 10, 11}) {
            WicketBoard x = oneCriesOff();
            dueSeats(x, NONE, 0, NONE, 1);
            x.umpire(0, 10, 2, 0);
            x.umpire(0, other, 2, 0);
            due("off(0)", x.off(0), 1);
            dueSeats(x, NONE, other < 10 ? 3 : 2, NONE, 1);
        }
        WicketBoard x = oneCriesOff();
        x.umpire(0, 0, 3, G1);
        x.umpire(0, 0, 2, 1 | G1);
        x.umpire(0, 0, 2, 2 | G1);
        x.umpire(0, 0, 2, G1);
        x.away(5, 0, true);
        x.umpire(0, 60, 2, G1);
        x.umpire(0, 61, 2, G1);
        due("off(0): by the one who may, not by one with a seat", x.off(0), 1);
        dueSeats(x, NONE, 6, NONE, 1);
        due("off(6)", x.off(6), 0);
        dueSeats(x, NONE, NONE, NONE, 1);
        for (int other : new int[] {4, 5, 6}) {
            WicketBoard stood = boardWith("again 0;fair 5;");
            stood.umpire(0, 0, 2, 0);
            addGames(stood, 0);
            stood.send();
            stood.next();
            stood.umpire(0, 0, 2, 0);
            addGames(stood, 0);
            stood.send();
            dueSeats(stood, NONE, 1);
            stood.umpire(other, 0, 2, 0);
            due("off(1), a week stood or " + other + " miles", stood.off(1), 1);
            dueSeats(stood, NONE, other < 5 ? 2 : 0);
        }
    }

    private void leastNumber() {
        WicketBoard x = oneCriesOff();
        x.umpire(10, 0, 2, 0);
        x.umpire(0, 10, 2, 0);
        x.umpire(5, 5, 2, 0);
        due("off(0)", x.off(0), 1);
        dueSeats(x, NONE, 2, NONE, 1);
        due("off(2)", x.off(2), 1);
        dueSeats(x, NONE, 3, NONE, 1);
        due("off(3)", x.off(3), 1);
        dueSeats(x, NONE, 4, NONE, 1);
        WicketBoard all = fullBoard(20, 8);
        all.send();
        for (int u = 16; u < 20; u++) {
            due("off(" + (u - 1) + ")", all.off(u - 1), 1);
            due("seat(15)", all.seat(15), u);
        }
        due("off(19)", all.off(19), 0);
    }

    /** GAMES at 0, 0 and 20, 0 and 0, 20; UMPIRE 0 has SEAT 1, one SEAT 3, two SEAT 5; both MAY have 1. */
    private static WicketBoard threeGames(int one, int oneAt, int two, int twoAt) {
        WicketBoard x = new WicketBoard();
        x.umpire(0, 0, 2, G1 | G2);
        for (int u = 1; u <= 2; u++) {
            x.umpire(u == one ? oneAt : 0, u == two ? twoAt : 0, 2, u == one ? G2 : G1);
        }
        x.game(0, 0, 0, 1, 1);
        x.game(20, 0, 2, 3, 1);
        x.game(0, 20, 4, 5, 1);
        x.send();
        return x;
    }

    /** One who is free, and MAY have SEAT 3 alone, this many miles off. */
    private static void addForThree(WicketBoard x, int miles) {
        x.umpire(20, miles, 2, G0 | G2);
    }

    /** One who is free, and MAY have SEAT 5 alone, this many miles off. */
    private static void addForFive(WicketBoard x, int miles) {
        x.umpire(miles, 20, 2, G0 | G1);
    }

    private void moveIfThereIsNone() {
        WicketBoard x = threeGames(1, 0, 2, 0);
        dueSeats(x, NONE, 0, NONE, 1, NONE, 2);
        addForThree(x, 0);
        x.umpire(0, 60, 2, G1 | G2);
        due("off(0): by a free one, however dear", x.off(0), 1);
        dueSeats(x, NONE, 4, NONE, 1, NONE, 2);
        due("off(4): by a move", x.off(4), 2);
        dueSeats(x, NONE, 1, NONE, 3, NONE, 2);
        WicketBoard far = threeGames(1, 0, 2, 0);
        addForThree(far, 0);
        far.umpire(0, 61, 2, G1 | G2);
        due("off(0): the free one may not", far.off(0), 2);
        dueSeats(far, NONE, 1, NONE, 3, NONE, 2);
        WicketBoard same = new WicketBoard();
        same.umpire(0, 0, 1, 0);
        same.umpire(0, 0, 1, 0);
        same.umpire(0, 0, 2, 0);
        same.game(0, 0, 0, 1, 1);
        same.send();
        dueSeats(same, 0, 1);
        due("off(0): from the other seat of the game", same.off(0), 2);
        dueSeats(same, 1, 2);
    }

    private void leftIsFilled() {
        WicketBoard none = threeGames(1, 10, 2, 10);
        due("off(0): none fills what would be left", none.off(0), 0);
        dueSeats(none, NONE, NONE, NONE, 1, NONE, 2);
        WicketBoard x = threeGames(1, 10, 2, 10);
        addForThree(x, 60);
        due("off(0): one fills it", x.off(0), 2);
        dueSeats(x, NONE, 1, NONE, 3, NONE, 2);
        WicketBoard far = threeGames(1, 10, 2, 10);
        addForThree(far, 61);
        due("off(0): the one may not", far.off(0), 0);
        dueSeats(far, NONE, NONE, NONE, 1, NONE, 2);
        WicketBoard swap = new WicketBoard();
        swap.umpire(0, 0, 2, 0);
        swap.umpire(20, 0, 2, 0);
        addGames(swap, 0, 20);
        swap.send();
        dueSeats(swap, NONE, 0, NONE, 1);
        due("off(0): not by the one who cries off", swap.off(0), 0);
        dueSeats(swap, NONE, NONE, NONE, 1);
        WicketBoard cheapest = threeGames(1, 10, 2, 10);
        addForThree(cheapest, 7);
        addForThree(cheapest, 6);
        addForThree(cheapest, 8);
        due("off(0): the cheapest fills it", cheapest.off(0), 2);
        dueSeats(cheapest, NONE, 1, NONE, 4, NONE, 2);
    }

    /** Whom OFF moves, when the ways cost just what the free ones cost. */
    private void leastOfBoth() {
        for (int other : new int[] {4, 5, 6}) {
            WicketBoard x = threeGames(1, 10, 2, 10);
            addForThree(x, 5);
            addForFive(x, other);
            due("off(0), 5 and " + other, x.off(0), 2);
            dueSeats(x, NONE, other < 5 ? 2 : 1, NONE, other < 5 ? 1 : 3, NONE, other < 5 ? 4 : 2);
            WicketBoard y = threeGames(1, 10, 2, 10);
            addForThree(y, other);
            addForFive(y, 5);
            due("off(0), " + other + " and 5", y.off(0), 2);
            dueSeats(y, NONE, other > 5 ? 2 : 1, NONE, other > 5 ? 1 : 3, NONE, other > 5 ? 4 : 2);
        }
    }

    /** One at 12, 0 costs four more on SEAT 1 than on 3, one at 8, 0 four less, one at 0, 0 twenty less. */
    private void lessWhatItCost() {
        int[] at = {12, 8, 0};
        int[] more = {4, -4, -20};
        for (int i = 0; i < at.length; i++) {
            for (int near = -1; near <= 1; near++) {
                int twoAt = i == 2 ? 0 : 10;
                int other = i == 2 ? 9 + near : 9 + more[i] + near;
                WicketBoard x = threeGames(1, at[i], 2, twoAt);
                addForThree(x, 9);
                addForFive(x, other);
                due("off(0)", x.off(0), 2);
                dueSeats(x, NONE, near < 0 ? 2 : 1, NONE, near < 0 ? 1 : 3, NONE, near < 0 ? 4 : 2);
            }
        }
    }

    private void leastSeatLeft() {
        WicketBoard x = threeGames(1, 10, 2, 10);
        addForThree(x, 5);
        addForFive(x, 5);
        due("off(0)", x.off(0), 2);
        dueSeats(x, NONE, 1, NONE, 3, NONE, 2);
        WicketBoard turned = threeGames(2, 10, 1, 10);
        dueSeats(turned, NONE, 0, NONE, 2, NONE, 1);
        addForThree(turned, 5);
        addForFive(turned, 5);
        due("off(0): not the least number of who moves", turned.off(0), 2);
        dueSeats(turned, NONE, 2, NONE, 3, NONE, 1);
        WicketBoard fillers = threeGames(1, 10, 2, 10);
        addForFive(fillers, 5);
        addForThree(fillers, 5);
        due("off(0): the seat ahead of the number of who fills it", fillers.off(0), 2);
        dueSeats(fillers, NONE, 1, NONE, 4, NONE, 2);
        WicketBoard ends = new WicketBoard();
        ends.umpire(0, 0, 1, 0);
        for (int u = 1; u < 16; u++) {
            ends.umpire(0, 0, 2, 0);
        }
        ends.game(0, 0, 0, 1, 4);
        for (int g = 1; g < 7; g++) {
            ends.game(0, 0, 0, 1, 2);
        }
        ends.game(0, 0, 0, 1, 1);
        due("send()", ends.send(), 16);
        int criesOff = ends.seat(15);
        ends.umpire(0, 0, 4, 0);
        due("seat(0)", ends.seat(0), 1);
        due("off of the last seat: the first one is left", ends.off(criesOff), 2);
        due("seat(15)", ends.seat(15), 1);
        due("seat(0)", ends.seat(0), 16);
    }

    private void leastFiller() {
        int[][] miles = {{5, 5}, {5, 4}, {4, 5}};
        int[] filler = {3, 4, 3};
        for (int i = 0; i < miles.length; i++) {
            WicketBoard x = threeGames(1, 10, 2, 10);
            addForThree(x, miles[i][0]);
            addForThree(x, miles[i][1]);
            due("off(0)", x.off(0), 2);
            dueSeats(x, NONE, 1, NONE, filler[i], NONE, 2);
        }
        WicketBoard three = threeGames(1, 10, 2, 10);
        addForThree(three, 5);
        addForThree(three, 5);
        addForThree(three, 5);
        three.away(3, 0, true);
        due("off(0): the least who may", three.off(0), 2);
        dueSeats(three, NONE, 1, NONE, 4, NONE, 2);
    }

    private void elseEmpty() {
        WicketBoard alone = fullBoard(1, 1);
        alone.send();
        due("off(0) of one alone", alone.off(0), 0);
        dueSeats(alone, NONE, NONE);
        WicketBoard full = fullBoard(16, 8);
        full.send();
        due("off(15) of full rows", full.off(15), 0);
        due("off(0) of full rows", full.off(0), 0);
        dueSeats(full, NONE, 1, 2, 3, 4, 5, 6, 7, 8, 9, 10, 11, 12, 13, 14, NONE);
        WicketBoard chain = new WicketBoard();
        chain.umpire(0, 0, 2, G1 | G2);
        chain.umpire(10, 0, 2, G2);
        chain.umpire(30, 0, 2, G0);
        addGames(chain, 0, 20, 40);
        due("send()", chain.send(), 3);
        dueSeats(chain, NONE, 0, NONE, 1, NONE, 2);
        chain.umpire(40, 0, 2, G0 | G1);
        due("off(0): it would take two moves", chain.off(0), 0);
        dueSeats(chain, NONE, NONE, NONE, 1, NONE, 2);
        due("about(3, 1)", chain.about(3, 1), NONE);
        due("count(3)", chain.count(3), 2);
    }

    private void offAnswers() {
        WicketBoard x = threeGames(1, 10, 2, 10);
        x.umpire(0, 0, 2, G1 | G2);
        addForThree(x, 5);
        due("off(0)", x.off(0), 1);
        dueSeats(x, NONE, 3, NONE, 1, NONE, 2);
        due("off(3)", x.off(3), 2);
        dueSeats(x, NONE, 1, NONE, 4, NONE, 2);
        due("off(1)", x.off(1), 0);
        dueSeats(x, NONE, NONE, NONE, 4, NONE, 2);
        due("count(3)", x.count(3), 2);
    }

    private void offNone() {
        WicketBoard x = new WicketBoard();
        due("off(0) without umpires", x.off(0), NONE);
        addUmpires(x, 4);
        x.game(0, 0, 0, 1, 1);
        due("off(0) ahead of send()", x.off(0), NONE);
        due("may(0, 0), not away by that", x.may(0, 0), true);
        x.send();
        for (int u : new int[] {MIN, -1, 4, 19, 20, MAX}) {
            due("off(" + u + ")", x.off(u), NONE);
        }
        due("off(2) without a seat", x.off(2), NONE);
        due("may(2, 0), not away by that", x.may(2, 0), true);
        due("off(1)", x.off(1), 1);
        due("off(1) again", x.off(1), NONE);
        dueSeats(x, 0, 2);
        due("mark", x.mark(1, 0, 7, true), true);
        due("off(0) with marks of another one", x.off(0), NONE);
        due("off(2) with marks", x.off(2), NONE);
        dueSeats(x, 0, 2);
        due("may(0, 0), not away by that", x.may(0, 0), true);
        x.next();
        due("off(0) in the next week, without a seat", x.off(0), NONE);
        x.game(0, 0, 2, 3, 1);
        x.send();
        dueSeats(x, 1, 3);
        due("off(1) in the next week, without marks", x.off(1), 1);
        dueSeats(x, 0, 3);
    }
}
