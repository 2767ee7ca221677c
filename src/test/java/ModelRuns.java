import java.util.ArrayList;
import java.util.Arrays;
import java.util.List;
import java.util.NoSuchElementException;
import java.util.Random;

/** Random runs of up to 512 calls, each answer compared with that of a slow and plain model. */
public final class ModelRuns {
    /** The document promises nothing of an object after so many calls. */
    private static final int CALLS = 512;
    /** No step of a run makes more calls than this. */
    private static final int CALLS_OF_A_STEP = 24;
    /** How often of a hundred times: umpire, game, send, off, mark, next, rules; else a question. */
    private static final int[][] PACES = {
        {5, 12, 12, 10, 4, 8, 6},
        {3, 14, 16, 40, 0, 10, 2},
        {3, 4, 20, 2, 50, 15, 2},
        {1, 2, 7, 1, 7, 80, 0},
    };
    private static final long THROWN = Long.MIN_VALUE;
    private static int wrong = 0;

    public static void main(String[] args) {
        int runs = args.length > 0 ? Integer.parseInt(args[0]) : 2000;
        for (int seed = 0; seed < runs && wrong < 5; seed++) {
            new Run(seed, 3 + seed % 10, seed % 7 == 0, PACES[seed % PACES.length]).play();
        }
        for (int seed = 0; seed < 3 && wrong < 5; seed++) {
            bigSend(seed);
        }
        System.out.println(wrong == 0 ? runs + " runs are as the model's" : wrong + " runs differ");
        System.exit(wrong == 0 ? 0 : 1);
    }

    /** Twenty umpires and eight games, with few unlike costs, so that there are many best ways. */
    private static void bigSend(int seed) {
        Random dice = new Random(seed);
        WicketBoard x = new WicketBoard();
        PlainBoard m = new PlainBoard();
        for (int u = 0; u < 20; u++) {
            int[] a = {dice.nextInt(4), dice.nextInt(3), 1 + dice.nextInt(4), 1 << dice.nextInt(12)};
            x.umpire(a[0], a[1], a[2], a[3]);
            m.umpire(a[0], a[1], a[2], a[3]);
        }
        for (int g = 0; g < 8; g++) {
            int[] a = {dice.nextInt(4), dice.nextInt(3), dice.nextInt(6), 6 + dice.nextInt(6), 1 + dice.nextInt(3)};
            x.game(a[0], a[1], a[2], a[3], a[4]);
            m.game(a[0], a[1], a[2], a[3], a[4]);
        }
        boolean same = x.send() == m.send();
        for (int s = 0; s < 16; s++) {
            same &= x.seat(s) == m.seat(s);
        }
        if (!same) {
            wrong++;
            System.out.println("big send " + seed + " differs");
        }
    }

    /** One run: an object, a model, and the calls that were made so far. */
    private static final class Run {
        final int seed;
        final Random dice;
        final WicketBoard x = new WicketBoard();
        final PlainBoard m = new PlainBoard();
        final List<String> log = new ArrayList<>();
        final int mostUmpires;
        final boolean wild;
        final int[] pace;
        final boolean hasManyWeeks;
        final int spread;
        boolean same = true;

        Run(int seed, int mostUmpires, boolean wild, int[] pace) {
            this.seed = seed;
            this.mostUmpires = mostUmpires;
            this.wild = wild;
            this.pace = pace;
            hasManyWeeks = pace[5] > 50;
            dice = new Random(seed);
            spread = new int[] {3, 10, 40, 100}[dice.nextInt(4)];
        }

        void play() {
            for (int i = 2; i < mostUmpires; i++) {
                umpire();
            }
            for (int i = 0; i < CALLS && same && log.size() + CALLS_OF_A_STEP <= CALLS; i++) {
                try {
                    step();
                } catch (RuntimeException e) {
                    compare("a call that threw " + e, 0, 1);
                }
            }
        }

        void compare(String call, long got, long want) {
            log.add(call + " = " + got);
            if (got != want) {
                same = false;
                wrong++;
                int from = Math.max(0, log.size() - 40);
                System.out.println("run " + seed + ": " + log.subList(from, log.size()) + ", due is " + want);
            }
        }

        void compare(String call, boolean got, boolean want) {
            compare(call, got ? 1 : 0, want ? 1 : 0);
        }

        int odd(int usual) {
            int[] odd = {-1, -2, 8, 9, 12, 16, 20, 99, 100, 101, 4095, 4096, Integer.MIN_VALUE, Integer.MAX_VALUE};
            return dice.nextInt(wild ? 6 : 40) == 0 ? odd[dice.nextInt(odd.length)] : usual;
        }

        int someUmpire() {
            return odd(dice.nextInt(Math.max(1, m.umpires.size())));
        }

        int someSeat() {
            return odd(dice.nextInt(Math.max(1, 2 * m.games.size())));
        }

        /** A SEAT that has an UMPIRE, if one has. */
        int someFilledSeat() {
            List<Integer> filled = new ArrayList<>();
            for (int s = 0; s < 2 * m.games.size(); s++) {
                if (m.seat(s) >= 0) {
                    filled.add(s);
                }
            }
            return odd(filled.isEmpty() ? 0 : filled.get(dice.nextInt(filled.size())));
        }

        int someBars() {
            return dice.nextInt(3) == 0 ? 1 << dice.nextInt(12) | 1 << dice.nextInt(12) : 0;
        }

        int kindOfStep() {
            int left = dice.nextInt(100);
            int kind = 0;
            while (kind < pace.length && left >= pace[kind]) {
                left -= pace[kind];
                kind++;
            }
            return kind;
        }

        void step() {
            switch (kindOfStep()) {
                case 0 -> umpire();
                case 1 -> game();
                case 2 -> send();
                case 3 -> off();
                case 4 -> marks();
                case 5 -> next();
                case 6 -> rules();
                default -> ask();
            }
        }

        void send() {
            compare("send()", x.send(), m.send());
            seats();
        }

        void off() {
            int u = dice.nextInt(4) > 0 ? m.seat(someFilledSeat()) : someUmpire();
            compare("off(" + u + ")", x.off(u), m.off(u));
            seats();
        }

        void next() {
            compare("next()", x.next(), m.next());
            for (int i = dice.nextInt(hasManyWeeks ? 2 : 4); i > 0; i--) {
                game();
            }
            if (!m.umpires.isEmpty() && dice.nextInt(hasManyWeeks ? 20 : 3) == 0) {
                everythingAbout(dice.nextInt(m.umpires.size()));
            }
        }

        void umpire() {
            int ux = odd(dice.nextInt(spread));
            int uy = odd(dice.nextInt(spread));
            int grade = odd(1 + dice.nextInt(4));
            int bars = odd(someBars());
            if (m.umpires.size() < mostUmpires) {
                String call = "umpire(" + ux + ", " + uy + ", " + grade + ", " + bars + ")";
                compare(call, x.umpire(ux, uy, grade, bars), m.umpire(ux, uy, grade, bars));
            }
        }

        void game() {
            int gx = odd(dice.nextInt(spread));
            int gy = odd(dice.nextInt(spread));
            int first = odd(dice.nextInt(12));
            int second = odd(dice.nextInt(12));
            int level = odd(1 + dice.nextInt(4));
            String call = "game(" + gx + ", " + gy + ", " + first + ", " + second + ", " + level + ")";
            compare(call, x.game(gx, gy, first, second, level), m.game(gx, gy, first, second, level));
        }

        void marks() {
            int s = dice.nextInt(4) > 0 ? someFilledSeat() : someSeat();
            int captain = odd(dice.nextInt(2));
            int marks = odd(dice.nextInt(3) == 0 ? dice.nextInt(101) : dice.nextInt(2) * 100);
            boolean won = dice.nextBoolean();
            String call = "mark(" + s + ", " + captain + ", " + marks + ", " + won + ")";
            compare(call, x.mark(s, captain, marks, won), m.mark(s, captain, marks, won));
        }

        void seats() {
            for (int s = 0; s <= 2 * m.games.size(); s++) {
                compare("seat(" + s + ")", x.seat(s), m.seat(s));
            }
            compare("together()", x.together(), m.together());
            compare("count(3)", x.count(3), m.count(3));
        }

        void everythingAbout(int u) {
            for (int what = 0; what < 6; what++) {
                compare("about(" + u + ", " + what + ")", x.about(u, what), m.about(u, what));
            }
        }

        void rules() {
            String text = text();
            int cut = text.length();
            while (text.length() % 20 != 0) {
                text += (char) dice.nextInt(256);
            }
            for (int i = 0; i < text.length(); i += 20) {
                int[] a = new int[5];
                for (int k = 0; k < 20; k++) {
                    a[k / 4] = a[k / 4] << 8 | text.charAt(i + k);
                }
                String call = "feed(" + Arrays.toString(a) + ")";
                compare(call, x.feed(a[0], a[1], a[2], a[3], a[4]), m.feed(a[0], a[1], a[2], a[3], a[4]));
            }
            int n = odd(cut);
            compare("end(" + n + ")", x.end(n), m.end(n));
            compare("rules() of " + text.substring(0, cut), x.rules(), m.rules());
            compare("fault()", x.fault(), m.fault());
            for (int k = -1; k <= 9; k++) {
                compare("rule(" + k + ")", x.rule(k), m.rule(k));
            }
        }

        String text() {
            String[] words = {"row", "again", "far", "fair", "won", "lost", "up", "down", "of"};
            String[] junk = {"", " ", "5", ";", "x", "row", "R", "7up", "0000", "(", "\t", "\u00e9"};
            int[] most = {9, 9, 200, 50, 9, 9, 101, 100, 20};
            StringBuilder text = new StringBuilder();
            List<Integer> order = new ArrayList<>();
            int told = dice.nextInt(8);
            for (int i = 0; i < told; i++) {
                int k = dice.nextInt(9);
                if (!order.contains(k) || dice.nextInt(6) == 0) {
                    order.add(k);
                }
            }
            boolean faulty = dice.nextInt(3) == 0;
            boolean gaps = dice.nextInt(5) == 0;
            for (int k : order) {
                text.append(words[k]).append(dice.nextBoolean() ? " " : "\n");
                int number = 1 + dice.nextInt(most[k] + (faulty ? 2 : 0));
                text.append(Math.min(number, faulty ? number : most[k]));
                text.append(faulty && dice.nextInt(5) == 0 ? junk[dice.nextInt(junk.length)] : ";");
                text.append(" ".repeat(gaps ? dice.nextInt(50) : dice.nextInt(2)));
            }
            if (faulty && dice.nextBoolean()) {
                text.append(junk[dice.nextInt(junk.length)]);
            }
            return text.length() > 180 ? text.substring(0, 150 + dice.nextInt(31)) : text.toString();
        }

        void ask() {
            int u = someUmpire();
            int s = someSeat();
            int w = odd(Math.max(0, m.week - 3 + dice.nextInt(6)));
            int what = odd(dice.nextInt(6));
            boolean is = dice.nextInt(3) > 0;
            switch (dice.nextInt(6)) {
                case 0 -> compare("may(" + u + ", " + s + ")", x.may(u, s), m.may(u, s));
                case 1 -> compare("cost(" + u + ", " + s + ")", x.cost(u, s), m.cost(u, s));
                case 2 -> compare("away(" + u + ", " + w + ", " + is + ")", x.away(u, w, is), m.away(u, w, is));
                case 3 -> compare("stood(" + u + ", " + w + ")", x.stood(u, w), m.stood(u, w));
                case 4 -> compare("count(" + what + ")", x.count(what), m.count(what));
                default -> compare("about(" + u + ", " + what + ")", told(u, what), due(u, what));
            }
        }

        long told(int u, int what) {
            try {
                return x.about(u, what);
            } catch (NoSuchElementException e) {
                return THROWN;
            }
        }

        long due(int u, int what) {
            try {
                return m.about(u, what);
            } catch (NoSuchElementException e) {
                return THROWN;
            }
        }
    }
}
