import java.util.NoSuchElementException;

/**
 * A board that sends umpires to cricket games week by week. The document that it keeps is
 * shared/DOC.md; the words in capitals there are the words of the comments here.
 */
public final class WicketBoard {
    public static final int NONE = -1;

    private static final int MOST_UMPIRES = 20;
    private static final int MOST_GAMES = 8;
    private static final int MOST_SEATS = 16;
    private static final int CLUB_COUNT = 12;
    private static final int LAST_MILE = 99;
    private static final int LAST_WEEK = 99;
    private static final int FIRST_GRADE = 1;
    private static final int LAST_GRADE = 4;
    private static final int MOST_MARKS = 100;

    private final Tape tape;
    private final RuleBook book;
    private final Umpire[] umpires;
    private final Game[] games;
    private final int[] holders;
    private final Sender sender;
    private int umpireCount;
    private int gameCount;
    private int week;
    /** The MARKS of this WEEK: bit 2 s + c is set once captain c has given those of SEAT s. */
    private int given;

    public WicketBoard() {
        tape = new Tape();
        book = new RuleBook();
        umpires = new Umpire[MOST_UMPIRES];
        games = new Game[MOST_GAMES];
        for (int g = 0; g < MOST_GAMES; g++) {
            games[g] = new Game();
        }
        holders = new int[MOST_SEATS];
        for (int s = 0; s < MOST_SEATS; s++) {
            holders[s] = NONE;
        }
        sender = new Sender();
    }

    public int feed(int a, int b, int c, int d, int e) {
        if (!tape.hasRoom(20)) {
            return NONE;
        }
        tape.append(a);
        tape.append(b);
        tape.append(c);
        tape.append(d);
        tape.append(e);
        return tape.length();
    }

    public boolean end(int n) {
        return tape.cut(n);
    }

    public int rules() {
        int told = book.read(tape);
        tape.cut(0);
        return told;
    }

    public int fault() {
        return book.faultKind();
    }

    public int rule(int k) {
        return book.value(k);
    }

    public int umpire(int x, int y, int grade, int barred) {
        if (umpireCount >= MOST_UMPIRES || !isPlace(x, y)) {
            return NONE;
        }
        if (!isGrade(grade) || barred < 0 || barred >= 1 << CLUB_COUNT) {
            return NONE;
        }
        int number = umpireCount;
        umpires[number] = new Umpire(x, y, grade, barred);
        umpireCount = number + 1;
        return number;
    }

    public boolean away(int u, int week, boolean is) {
        Umpire one = umpireAt(u);
        if (one == null || week < this.week || week > LAST_WEEK) {
            return false;
        }
        if (week == this.week && one.place != NONE) {
            return false;
        }
        return one.setAway(week, is);
    }

    public int game(int x, int y, int first, int second, int level) {
        if (gameCount >= MOST_GAMES || !isPlace(x, y) || !isGrade(level)) {
            return NONE;
        }
        if (!isClub(first) || !isClub(second) || first == second) {
            return NONE;
        }
        int number = gameCount;
        games[number].set(x, y, 1 << first | 1 << second, level);
        gameCount = number + 1;
        return number;
    }

    public boolean may(int u, int seat) {
        return fits(umpireAt(u), seat);
    }

    public int cost(int u, int seat) {
        return price(umpireAt(u), seat);
    }

    public int send() {
        if (given != 0) {
            return NONE;
        }
        int seats = 2 * gameCount;
        sender.begin(seats, umpireCount);
        for (int s = 0; s < seats; s++) {
            clearSeat(s);
            for (int u = 0; u < umpireCount; u++) {
                if (fits(umpireAt(u), s)) {
                    sender.allow(s, u, price(umpireAt(u), s));
                }
            }
        }
        sender.settle();
        for (int s = 0; s < seats; s++) {
            fillSeat(s, sender.umpireFor(s));
        }
        return filledSeats();
    }

    public int off(int u) {
        Umpire one = umpireAt(u);
        if (one == null || one.place == NONE || given != 0) {
            return NONE;
        }
        int left = one.place;
        clearSeat(left);
        one.setAway(week, true);
        int free = cheapestFree(left);
        if (free != NONE) {
            fillSeat(left, free);
            return 1;
        }
        return fillByMove(left) ? 2 : 0;
    }

    public int seat(int seat) {
        return isSeat(seat) ? holders[seat] : NONE;
    }

    public boolean mark(int seat, int captain, int marks, boolean won) {
        Umpire one = holderOf(seat);
        if (one == null || captain < 0 || captain > 1 || marks < 0 || marks > MOST_MARKS) {
            return false;
        }
        int bit = 1 << (2 * seat + captain);
        if ((given & bit) != 0) {
            return false;
        }
        given |= bit;
        one.addMarks(marks, book.value(won ? RuleBook.WON : RuleBook.LOST));
        return true;
    }

    public int next() {
        if (week >= LAST_WEEK) {
            return NONE;
        }
        for (int s = 0; s < 2 * gameCount; s++) {
            endSeat(s);
        }
        for (int u = 0; u < umpireCount; u++) {
            regrade(umpireAt(u));
        }
        gameCount = 0;
        given = 0;
        week++;
        return week;
    }

    public int about(int u, int what) throws NoSuchElementException {
        Umpire one = umpireAt(u);
        if (one == null) {
            throw new NoSuchElementException("no such umpire");
        }
        switch (what) {
            case 0:
                return one.grade;
            case 1:
                return one.place;
            case 2:
                return one.weeksStood;
            case 3:
                return one.marksGiven;
            case 4:
                return one.marksTimes;
            case 5:
                return one.marksSum;
            default:
                throw new NoSuchElementException("nothing of that number is told");
        }
    }

    public int stood(int u, int week) {
        Umpire one = umpireAt(u);
        if (one == null || week < 0 || week >= this.week) {
            return NONE;
        }
        return one.clubsIn(week);
    }

    public int together() {
        int sum = 0;
        for (int s = 0; s < 2 * gameCount; s++) {
            Umpire one = holderOf(s);
            if (one != null) {
                sum += price(one, s);
            }
        }
        return sum;
    }

    public int count(int what) {
        switch (what) {
            case 0:
                return week;
            case 1:
                return umpireCount;
            case 2:
                return gameCount;
            case 3:
                return filledSeats();
            case 4:
                return Integer.bitCount(given);
            case 5:
                return tape.length();
            default:
                return NONE;
        }
    }

    private static boolean isPlace(int x, int y) {
        return x >= 0 && x <= LAST_MILE && y >= 0 && y <= LAST_MILE;
    }

    private static boolean isGrade(int grade) {
        return grade >= FIRST_GRADE && grade <= LAST_GRADE;
    }

    private static boolean isClub(int club) {
        return club >= 0 && club < CLUB_COUNT;
    }

    private boolean isSeat(int seat) {
        return seat >= 0 && seat < 2 * gameCount && seat < MOST_SEATS;
    }

    private Umpire umpireAt(int u) {
        return u >= 0 && u < umpireCount && u < MOST_UMPIRES ? umpires[u] : null;
    }

    private Umpire holderOf(int seat) {
        return isSeat(seat) ? umpireAt(holders[seat]) : null;
    }

    private Game gameOf(int seat) {
        return isSeat(seat) ? games[seat / 2] : null;
    }

    private boolean fits(Umpire one, int seat) {
        Game match = gameOf(seat);
        if (one == null || match == null) {
            return false;
        }
        return !one.isAway(week)
                && (one.barred & match.clubs) == 0
                && one.grade <= match.level + seat % 2
                && match.milesTo(one) <= book.value(RuleBook.FAR)
                && !one.stoodInAll(week, book.value(RuleBook.ROW))
                && !one.stoodWith(match.clubs, week, book.value(RuleBook.AGAIN));
    }

    private int price(Umpire one, int seat) {
        Game match = gameOf(seat);
        if (one == null || match == null) {
            return NONE;
        }
        return match.milesTo(one) + book.value(RuleBook.FAIR) * one.weeksStood;
    }

    private int filledSeats() {
        int filled = 0;
        for (int s = 0; s < 2 * gameCount; s++) {
            if (holderOf(s) != null) {
                filled++;
            }
        }
        return filled;
    }

    private void clearSeat(int seat) {
        Umpire one = holderOf(seat);
        if (one != null) {
            one.place = NONE;
            holders[seat] = NONE;
        }
    }

    private void fillSeat(int seat, int u) {
        Umpire one = umpireAt(u);
        if (one != null && isSeat(seat)) {
            one.place = seat;
            holders[seat] = u;
        }
    }

    /** The one who MAY have the SEAT, has none and COSTS least there; NONE without one. */
    private int cheapestFree(int seat) {
        int best = NONE;
        int least = 0;
        for (int u = 0; u < umpireCount; u++) {
            Umpire one = umpireAt(u);
            if (one != null && one.place == NONE && fits(one, seat)) {
                int asked = price(one, seat);
                if (best == NONE || asked < least) {
                    best = u;
                    least = asked;
                }
            }
        }
        return best;
    }

    /**
     * OFF by a move. For each SEAT that may be left the cheapest free one is the best who fills it,
     * so it is enough to compare one pair a SEAT; rising SEATS settle like ones.
     */
    private boolean fillByMove(int seat) {
        int bestLeft = NONE;
        int bestFree = NONE;
        int least = 0;
        for (int s = 0; s < 2 * gameCount; s++) {
            Umpire mover = holderOf(s);
            int free = s != seat && fits(mover, seat) ? cheapestFree(s) : NONE;
            if (free != NONE) {
                int asked = price(mover, seat) - price(mover, s) + price(umpireAt(free), s);
                if (bestLeft == NONE || asked < least) {
                    bestLeft = s;
                    bestFree = free;
                    least = asked;
                }
            }
        }
        if (!isSeat(bestLeft)) {
            return false;
        }
        int moved = holders[bestLeft];
        clearSeat(bestLeft);
        fillSeat(seat, moved);
        fillSeat(bestLeft, bestFree);
        return true;
    }

    private void endSeat(int seat) {
        Umpire one = holderOf(seat);
        Game match = gameOf(seat);
        if (one != null && match != null) {
            one.stand(week, match.clubs);
        }
        clearSeat(seat);
    }

    /** MEAN is compared by products, since a quotient would have to be rounded. */
    private void regrade(Umpire one) {
        if (one == null || one.marksGiven < book.value(RuleBook.OF) || one.marksTimes == 0) {
            return;
        }
        boolean high = one.marksSum >= book.value(RuleBook.UP) * one.marksTimes;
        boolean low = one.marksSum <= book.value(RuleBook.DOWN) * one.marksTimes;
        if (high && one.grade > FIRST_GRADE) {
            one.giveGrade(one.grade - 1);
        } else if (low && one.grade < LAST_GRADE) {
            one.giveGrade(one.grade + 1);
        }
    }

    /** The bytes that have been fed and not been read yet. */
    private static final class Tape {
        private static final int MOST_BYTES = 180;

        private final byte[] bytes = new byte[MOST_BYTES];
        private int length;

        int length() {
            return length;
        }

        boolean hasRoom(int more) {
            return length + more <= MOST_BYTES;
        }

        void append(int number) {
            if (!hasRoom(4)) {
                return;
            }
            for (int shift = 24; shift >= 0; shift -= 8) {
                bytes[length] = (byte) (number >> shift);
                length++;
            }
        }

        boolean cut(int n) {
            if (n < 0 || n > length) {
                return false;
            }
            length = n;
            return true;
        }

        int byteAt(int place) {
            return place >= 0 && place < length ? bytes[place] : 0;
        }

        boolean isBlank(int place) {
            int sign = byteAt(place);
            return sign == ' ' || sign == '\n';
        }

        boolean isLetter(int place) {
            int sign = byteAt(place);
            return sign >= 'a' && sign <= 'z';
        }

        boolean isDigit(int place) {
            int sign = byteAt(place);
            return sign >= '0' && sign <= '9';
        }
    }

    /** The RULES that hold, and the reader of a text of RULES. */
    private static final class RuleBook {
        static final int ROW = 0;
        static final int AGAIN = 1;
        static final int FAR = 2;
        static final int FAIR = 3;
        static final int WON = 4;
        static final int LOST = 5;
        static final int UP = 6;
        static final int DOWN = 7;
        static final int OF = 8;

        private static final int KINDS = 9;
        private static final int MOST_TEXT = 160;
        private static final int MOST_DIGITS = 3;
        private static final int[] LEAST = {1, 0, 0, 0, 0, 0, 1, 0, 1};
        private static final int[] MOST = {9, 9, 200, 50, 9, 9, 101, 100, 20};
        private static final int[] USUAL = {3, 1, 60, 5, 2, 1, 80, 30, 4};

        private static final int AWAITS_WORD = 0;
        private static final int AWAITS_NUMBER = 1;
        private static final int AWAITS_STOP = 2;

        private static final int NOT_AWAITED = 1;
        private static final int OUT_OF_BOUNDS = 2;
        private static final int TOLD_TWICE = 3;

        private final int[] values = new int[KINDS];
        private final int[] draft = new int[KINDS];
        private int awaited;
        private int current;
        /** Bit k is set once the text being read has told RULE k. */
        private int told;
        private int kind;
        private int place;

        RuleBook() {
            for (int k = 0; k < KINDS; k++) {
                values[k] = USUAL[k];
            }
        }

        int value(int k) {
            return k >= 0 && k < KINDS ? values[k] : NONE;
        }

        int faultKind() {
            return kind;
        }

        /** How many RULES the tape tells, which hold then; or -1 less the place of its FAULT. */
        int read(Tape tape) {
            begin();
            int limit = Math.min(tape.length(), MOST_TEXT);
            int behind = 0;
            for (int at = 0; at < limit && kind == 0; at++) {
                if (at >= behind && !tape.isBlank(at)) {
                    behind = endOfToken(tape, at);
                    take(tape, at, behind);
                }
            }
            if (kind == 0 && (tape.length() > MOST_TEXT || awaited != AWAITS_WORD)) {
                fail(NOT_AWAITED, limit);
            }
            if (kind != 0) {
                return -1 - place;
            }
            System.arraycopy(draft, 0, values, 0, KINDS);
            return Integer.bitCount(told);
        }

        private void begin() {
            System.arraycopy(USUAL, 0, draft, 0, KINDS);
            awaited = AWAITS_WORD;
            current = 0;
            told = 0;
            kind = 0;
            place = 0;
        }

        private void fail(int kindOfFault, int at) {
            kind = kindOfFault;
            place = at;
        }

        /** The place behind the TOKEN, which is read whole even where it goes beyond the limit. */
        private static int endOfToken(Tape tape, int at) {
            int end = at;
            for (int i = at; i < tape.length() && end == i; i++) {
                if (tape.isLetter(i) || tape.isDigit(i)) {
                    end = i + 1;
                }
            }
            return Math.max(end, at + 1);
        }

        private void take(Tape tape, int at, int behind) {
            if (tape.isLetter(at) && awaited == AWAITS_WORD) {
                takeWord(tape, at, behind);
            } else if (tape.isDigit(at) && awaited == AWAITS_NUMBER) {
                takeNumber(tape, at, behind);
            } else if (tape.byteAt(at) == ';' && awaited == AWAITS_STOP) {
                awaited = AWAITS_WORD;
            } else {
                fail(NOT_AWAITED, at);
            }
        }

        private void takeWord(Tape tape, int at, int behind) {
            int k = kindOfWord(tape, at, behind);
            if (k == NONE) {
                fail(NOT_AWAITED, at);
            } else if ((told & 1 << k) != 0) {
                fail(TOLD_TWICE, at);
            } else {
                told |= 1 << k;
                current = k;
                awaited = AWAITS_NUMBER;
            }
        }

        private void takeNumber(Tape tape, int at, int behind) {
            int number = numberOf(tape, at, behind);
            if (number == NONE) {
                fail(NOT_AWAITED, at);
            } else if (number < LEAST[current] || number > MOST[current]) {
                fail(OUT_OF_BOUNDS, at);
            } else {
                draft[current] = number;
                awaited = AWAITS_STOP;
            }
        }

        private static int kindOfWord(Tape tape, int at, int behind) {
            for (int k = 0; k < KINDS; k++) {
                if (isWord(tape, at, behind, wordOf(k))) {
                    return k;
                }
            }
            return NONE;
        }

        private static boolean isWord(Tape tape, int at, int behind, String word) {
            if (behind - at != word.length()) {
                return false;
            }
            for (int i = 0; i < word.length(); i++) {
                if (tape.byteAt(at + i) != word.charAt(i)) {
                    return false;
                }
            }
            return true;
        }

        private static String wordOf(int k) {
            switch (k) {
                case ROW:
                    return "row";
                case AGAIN:
                    return "again";
                case FAR:
                    return "far";
                case FAIR:
                    return "fair";
                case WON:
                    return "won";
                case LOST:
                    return "lost";
                case UP:
                    return "up";
                case DOWN:
                    return "down";
                default:
                    return "of";
            }
        }

        private static int numberOf(Tape tape, int at, int behind) {
            if (behind - at > MOST_DIGITS) {
                return NONE;
            }
            int number = 0;
            for (int i = at; i < behind; i++) {
                if (!tape.isDigit(i)) {
                    return NONE;
                }
                number = 10 * number + tape.byteAt(i) - '0';
            }
            return number;
        }
    }

    /** One of UMPIRES, with the WEEKS that are behind one and the MARKS since the GRADE was given. */
    private static final class Umpire {
        final int x;
        final int y;
        final int barred;
        int grade;
        /** The SEAT that one has, or NONE. */
        int place = NONE;
        int weeksStood;
        int marksGiven;
        int marksTimes;
        int marksSum;
        private final boolean[] awayWeeks = new boolean[LAST_WEEK + 1];
        private final int[] clubsByWeek = new int[LAST_WEEK + 1];

        Umpire(int x, int y, int grade, int barred) {
            this.x = x;
            this.y = y;
            this.grade = grade;
            this.barred = barred;
        }

        boolean isAway(int week) {
            return week >= 0 && week <= LAST_WEEK && awayWeeks[week];
        }

        boolean setAway(int week, boolean is) {
            if (week < 0 || week > LAST_WEEK || awayWeeks[week] == is) {
                return false;
            }
            awayWeeks[week] = is;
            return true;
        }

        int clubsIn(int week) {
            return week >= 0 && week <= LAST_WEEK ? clubsByWeek[week] : 0;
        }

        void stand(int week, int clubs) {
            if (week >= 0 && week <= LAST_WEEK) {
                clubsByWeek[week] = clubs;
                weeksStood++;
            }
        }

        /** Whether there were so many WEEKS ahead and one STOOD in each. */
        boolean stoodInAll(int week, int weeks) {
            if (week < weeks) {
                return false;
            }
            for (int w = week - weeks; w < week; w++) {
                if (clubsIn(w) == 0) {
                    return false;
                }
            }
            return true;
        }

        /** Whether one STOOD with one of the CLUBS in one of so many WEEKS ahead. */
        boolean stoodWith(int clubs, int week, int weeks) {
            for (int w = week - weeks; w < week; w++) {
                if ((clubsIn(w) & clubs) != 0) {
                    return true;
                }
            }
            return false;
        }

        void addMarks(int marks, int times) {
            marksGiven++;
            marksTimes += times;
            marksSum += marks * times;
        }

        void giveGrade(int newGrade) {
            grade = newGrade;
            marksGiven = 0;
            marksTimes = 0;
            marksSum = 0;
        }
    }

    /** A GAME of this WEEK; the objects are used again each WEEK. */
    private static final class Game {
        private int x;
        private int y;
        private int clubs;
        private int level;

        void set(int x, int y, int clubs, int level) {
            this.x = x;
            this.y = y;
            this.clubs = clubs;
            this.level = level;
        }

        int milesTo(Umpire one) {
            return Math.abs(x - one.x) + Math.abs(y - one.y);
        }
    }

    /**
     * Finds who is SENT where, by the Hungarian method on a square table. Its rows are the SEATS and
     * behind them one idle row for each UMPIRE, its columns the UMPIRES and behind them one empty
     * column for each SEAT. A SEAT on an empty column stays empty, which is so dear that as many are
     * filled as can be; an idle row takes what no SEAT takes, for nothing. Each row and each column
     * bears a part of the costs; a pair is tight if both parts together are its cost, and the best
     * tables are just those made of tight pairs alone.
     */
    private static final class Sender {
        private static final int MOST_ROWS = MOST_SEATS + MOST_UMPIRES;
        /** Above the COST of all SEATS together: 16 times 198 miles and 50 times 99 weeks. */
        private static final int EMPTY_COST = 100_000;
        /** Above what it costs to leave every SEAT empty. */
        private static final int BARRED_COST = 10_000_000;
        /** Above every gap between a pair's cost and the parts that its row and column bear. */
        private static final int NOT_REACHED = 1_000_000_000;

        private final int[] prices = new int[MOST_SEATS * MOST_UMPIRES];
        private final int[] columnOf = new int[MOST_ROWS];
        private final int[] rowOf = new int[MOST_ROWS];
        private final int[] rowPart = new int[MOST_ROWS];
        private final int[] columnPart = new int[MOST_ROWS];
        private final int[] slack = new int[MOST_ROWS];
        private final int[] link = new int[MOST_ROWS];
        private final int[] queue = new int[MOST_ROWS];
        private final boolean[] seen = new boolean[MOST_ROWS];
        private int seats;
        private int people;
        private int size;

        void begin(int seatCount, int umpireCount) {
            seats = Math.max(0, Math.min(seatCount, MOST_SEATS));
            people = Math.max(0, Math.min(umpireCount, MOST_UMPIRES));
            size = seats + people;
            for (int i = 0; i < prices.length; i++) {
                prices[i] = BARRED_COST;
            }
            for (int i = 0; i < size; i++) {
                columnOf[i] = NONE;
                rowOf[i] = NONE;
                rowPart[i] = 0;
                columnPart[i] = 0;
            }
            for (int u = 0; u < people; u++) {
                pair(seats + u, u);
            }
        }

        void allow(int seat, int u, int price) {
            if (seat >= 0 && seat < seats && u >= 0 && u < people) {
                prices[seat * MOST_UMPIRES + u] = price;
            }
        }

        void settle() {
            for (int s = 0; s < seats; s++) {
                addSeat(s);
            }
            for (int s = 0; s < seats; s++) {
                takeFirst(s);
            }
        }

        int umpireFor(int seat) {
            int column = seat >= 0 && seat < seats ? columnOf[seat] : NONE;
            return column < people ? column : NONE;
        }

        private void pair(int row, int column) {
            if (row >= 0 && row < size && column >= 0 && column < size) {
                columnOf[row] = column;
                rowOf[column] = row;
            }
        }

        private int gap(int row, int column) {
            int price = 0;
            if (row < seats) {
                price = column < people ? prices[row * MOST_UMPIRES + column] : EMPTY_COST;
            }
            return price - rowPart[row] - columnPart[column];
        }

        private void forgetColumns() {
            for (int c = 0; c < size; c++) {
                seen[c] = false;
                link[c] = NONE;
                slack[c] = NOT_REACHED;
            }
        }

        /** Gives the row a column by the cheapest way of moves among the rows that have one. */
        private void addSeat(int seat) {
            forgetColumns();
            int row = seat;
            int column = NONE;
            for (int step = 0; step < size && row != NONE; step++) {
                reach(row, column);
                column = nearest();
                if (column == NONE) {
                    return;
                }
                shiftParts(seat, slack[column]);
                seen[column] = true;
                row = rowOf[column];
            }
            moveAlong(seat, column);
        }

        private void reach(int row, int column) {
            for (int c = 0; c < size; c++) {
                if (!seen[c]) {
                    int g = gap(row, c);
                    if (g < slack[c]) {
                        slack[c] = g;
                        link[c] = column;
                    }
                }
            }
        }

        private int nearest() {
            int best = NONE;
            for (int c = 0; c < size; c++) {
                if (!seen[c] && (best == NONE || slack[c] < slack[best])) {
                    best = c;
                }
            }
            return best;
        }

        private void shiftParts(int seat, int by) {
            if (by == 0) {
                return;
            }
            rowPart[seat] += by;
            for (int c = 0; c < size; c++) {
                if (!seen[c]) {
                    slack[c] -= by;
                } else if (rowOf[c] != NONE) {
                    rowPart[rowOf[c]] += by;
                    columnPart[c] -= by;
                }
            }
        }

        /** Each row on the way moves one column on towards the free one; the seat takes the first. */
        private void moveAlong(int seat, int lastColumn) {
            int column = lastColumn;
            for (int step = 0; step < size && column != NONE; step++) {
                int before = link[column];
                pair(before == NONE ? seat : rowOf[before], column);
                column = before;
            }
        }

        /**
         * Of all best tables that agree on the SEATS ahead, takes one whose column of this SEAT is
         * the first. The SEAT may take a column if its row there can move on, by tight pairs of rows
         * behind this SEAT, until one takes the column that the SEAT leaves.
         */
        private void takeFirst(int seat) {
            int own = columnOf[seat];
            if (own == NONE || firstTight(seat, own, false) == own) {
                return;
            }
            findMovable(seat, own);
            int row = seat;
            int column = firstTight(seat, own, true);
            for (int step = 0; step < size && column != NONE && row != NONE; step++) {
                int moved = rowOf[column];
                int onward = link[column];
                pair(row, column);
                row = moved;
                column = onward;
            }
        }

        /** The first tight column of the row up to its own one, of all or of the seen ones alone. */
        private int firstTight(int row, int own, boolean seenAlone) {
            for (int c = 0; c < own; c++) {
                if ((seen[c] || !seenAlone) && gap(row, c) == 0) {
                    return c;
                }
            }
            return own;
        }

        /** Marks each column from which moves lead to the target, with a link to the next on the way. */
        private void findMovable(int seat, int target) {
            forgetColumns();
            seen[target] = true;
            queue[0] = target;
            int waiting = 1;
            for (int i = 0; i < waiting && i < size; i++) {
                for (int row = seat + 1; row < size && waiting < size; row++) {
                    int column = columnOf[row];
                    if (column != NONE && !seen[column] && gap(row, queue[i]) == 0) {
                        seen[column] = true;
                        link[column] = queue[i];
                        queue[waiting] = column;
                        waiting++;
                    }
                }
            }
        }
    }
}
