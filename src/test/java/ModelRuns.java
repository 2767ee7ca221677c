import java.util.ArrayList;
import java.util.Arrays;
import java.util.List;
import java.util.NoSuchElementException;
import java.util.Random;
import java.util.regex.Matcher;
import java.util.regex.Pattern;

/** Random runs of 512 calls, each answer compared with that of a slow and plain model. */
public final class ModelRuns {
    private static final int CALLS = 512;
    private static int wrong = 0;

    public static void main(String[] args) {
        int runs = args.length > 0 ? Integer.parseInt(args[0]) : 600;
        for (int seed = 0; seed < runs && wrong < 5; seed++) {
            new Run(seed, 3 + seed % 10, seed % 7 == 0).play();
        }
        for (int seed = 0; seed < 3 && wrong < 5; seed++) {
            bigSend(seed);
        }
        System.out.println(wrong == 0 ? runs + " runs are as the model's" : wrong + " runs differ");
        System.exit(wrong == 0 ? 0 : 1);
    }

    /** Twenty umpires and eight games, with few unlike costs, so that there are many best ways. */
    private static void bigSend(int seed) {
        Random dice = new Random(seed);
        WicketBoard x = new WicketBoard();
        Model m = new Model();
        for (int u = 0; u < 20; u++) {
            int[] a = {dice.nextInt(4), dice.nextInt(3), 1 + dice.nextInt(4), 1 << dice.nextInt(12)};
            x.umpire(a[0], a[1], a[2], a[3]);
            m.umpire(a[0], a[1], a[2], a[3]);
        }
        for (int g = 0; g < 8; g++) {
            int[] a = {dice.nextInt(4), dice.nextInt(3), dice.nextInt(6), 6 + dice.nextInt(6), 1 + dice.nextInt(3)};
            x.game(a[0], a[1], a[2], a[3], a[4]);
            m.game(a[0], a[1], a[2], a[3], a[4]);
        }
        boolean same = x.send() == m.send();
        for (int s = 0; s < 16; s++) {
            same &= x.seat(s) == m.seat(s);
        }
        if (!same) {
            wrong++;
            System.out.println("big send " + seed + " differs");
        }
    }

    /** One run: an object, a model, and the calls that were made so far. */
    private static final class Run {
        final int seed;
        final Random dice;
        final WicketBoard x = new WicketBoard();
        final Model m = new Model();
        final List<String> log = new ArrayList<>();
        final int mostUmpires;
        final boolean wild;
        final int spread;
        boolean same = true;

        Run(int seed, int mostUmpires, boolean wild) {
            this.seed = seed;
            this.mostUmpires = mostUmpires;
            this.wild = wild;
            dice = new Random(seed);
            spread = new int[] {3, 10, 40, 100}[dice.nextInt(4)];
        }

        void play() {
            for (int i = 0; i < CALLS && same; i++) {
                try {
                    step();
                } catch (RuntimeException e) {
                    compare("a call that threw " + e, 0, 1);
                }
            }
        }

        void compare(String call, long got, long want) {
            log.add(call + " = " + got);
            if (got != want) {
                same = false;
                wrong++;
                int from = Math.max(0, log.size() - 40);
                System.out.println("run " + seed + ": " + log.subList(from, log.size()) + ", due is " + want);
            }
        }

        void compare(String call, boolean got, boolean want) {
            compare(call, got ? 1 : 0, want ? 1 : 0);
        }

        int odd(int usual) {
            int[] odd = {-1, -2, 8, 9, 12, 16, 20, 99, 100, 101, 4095, 4096, Integer.MIN_VALUE, Integer.MAX_VALUE};
            return dice.nextInt(wild ? 6 : 40) == 0 ? odd[dice.nextInt(odd.length)] : usual;
        }

        int someUmpire() {
            return odd(dice.nextInt(Math.max(1, m.umpires.size())));
        }

        int someSeat() {
            return odd(dice.nextInt(Math.max(1, 2 * m.games.size())));
        }

        int someBars() {
            return dice.nextInt(3) == 0 ? 1 << dice.nextInt(12) | 1 << dice.nextInt(12) : 0;
        }

        void step() {
            int kind = dice.nextInt(100);
            if (kind < 5) {
                umpire();
            } else if (kind < 17) {
                game();
            } else if (kind < 26) {
                compare("send()", x.send(), m.send());
                seats();
            } else if (kind < 36) {
                int u = dice.nextBoolean() ? x.seat(someSeat()) : someUmpire();
                compare("off(" + u + ")", x.off(u), m.off(u));
                seats();
            } else if (kind < 48) {
                marks();
            } else if (kind < 55) {
                compare("next()", x.next(), m.next());
                everyone();
            } else if (kind < 61) {
                rules();
            } else {
                ask(kind);
            }
        }

        void umpire() {
            int ux = odd(dice.nextInt(spread));
            int uy = odd(dice.nextInt(spread));
            int grade = odd(1 + dice.nextInt(4));
            int bars = odd(someBars());
            if (m.umpires.size() < mostUmpires) {
                String call = "umpire(" + ux + ", " + uy + ", " + grade + ", " + bars + ")";
                compare(call, x.umpire(ux, uy, grade, bars), m.umpire(ux, uy, grade, bars));
            }
        }

        void game() {
            int gx = odd(dice.nextInt(spread));
            int gy = odd(dice.nextInt(spread));
            int first = odd(dice.nextInt(12));
            int second = odd(dice.nextInt(12));
            int level = odd(1 + dice.nextInt(4));
            String call = "game(" + gx + ", " + gy + ", " + first + ", " + second + ", " + level + ")";
            compare(call, x.game(gx, gy, first, second, level), m.game(gx, gy, first, second, level));
        }

        void marks() {
            int s = someSeat();
            int captain = odd(dice.nextInt(2));
            int marks = odd(dice.nextInt(3) == 0 ? dice.nextInt(101) : dice.nextInt(2) * 100);
            boolean won = dice.nextBoolean();
            if (dice.nextInt(3) == 0) {
                String call = "mark(" + s + ", " + captain + ", " + marks + ", " + won + ")";
                compare(call, x.mark(s, captain, marks, won), m.mark(s, captain, marks, won));
            }
        }

        void seats() {
            for (int s = -1; s <= 16; s++) {
                compare("seat(" + s + ")", x.seat(s), m.seat(s));
            }
            compare("together()", x.together(), m.together());
            compare("count(3)", x.count(3), m.count(3));
        }

        void everyone() {
            for (int u = 0; u < m.umpires.size(); u++) {
                for (int what = 0; what < 6; what++) {
                    compare("about(" + u + ", " + what + ")", x.about(u, what), m.about(u, what));
                }
            }
        }

        void rules() {
            String text = text();
            int cut = text.length();
            while (text.length() % 20 != 0) {
                text += (char) dice.nextInt(256);
            }
            for (int i = 0; i < text.length(); i += 20) {
                int[] a = new int[5];
                for (int k = 0; k < 20; k++) {
                    a[k / 4] = a[k / 4] << 8 | text.charAt(i + k);
                }
                String call = "feed(" + Arrays.toString(a) + ")";
                compare(call, x.feed(a[0], a[1], a[2], a[3], a[4]), m.feed(a[0], a[1], a[2], a[3], a[4]));
            }
            int n = odd(cut);
            compare("end(" + n + ")", x.end(n), m.end(n));
            compare("rules() of " + text.substring(0, cut), x.rules(), m.rules());
            compare("fault()", x.fault(), m.fault);
            for (int k = -1; k <= 9; k++) {
                compare("rule(" + k + ")", x.rule(k), m.rule(k));
            }
        }

        String text() {
            String[] words = {"row", "again", "far", "fair", "won", "lost", "up", "down", "of"};
            String[] junk = {"", " ", "5", ";", "x", "row", "R", "7up", "0000", "(", "\t", "\u00e9"};
            int[] most = {9, 9, 200, 50, 9, 9, 101, 100, 20};
            StringBuilder text = new StringBuilder();
            List<Integer> order = new ArrayList<>();
            int told = dice.nextInt(8);
            for (int i = 0; i < told; i++) {
                int k = dice.nextInt(9);
                if (!order.contains(k) || dice.nextInt(6) == 0) {
                    order.add(k);
                }
            }
            boolean faulty = dice.nextInt(3) == 0;
            boolean gaps = dice.nextInt(5) == 0;
            for (int k : order) {
                text.append(words[k]).append(dice.nextBoolean() ? " " : "\n");
                int number = 1 + dice.nextInt(most[k] + (faulty ? 2 : 0));
                text.append(Math.min(number, faulty ? number : most[k]));
                text.append(faulty && dice.nextInt(5) == 0 ? junk[dice.nextInt(junk.length)] : ";");
                text.append(" ".repeat(gaps ? dice.nextInt(50) : dice.nextInt(2)));
            }
            if (faulty && dice.nextBoolean()) {
                text.append(junk[dice.nextInt(junk.length)]);
            }
            return text.length() > 180 ? text.substring(0, 150 + dice.nextInt(31)) : text.toString();
        }

        void ask(int kind) {
            int u = someUmpire();
            int s = someSeat();
            int w = odd(Math.max(0, m.week - 3 + dice.nextInt(6)));
            if (kind < 70) {
                compare("may(" + u + ", " + s + ")", x.may(u, s), m.may(u, s));
            } else if (kind < 76) {
                compare("cost(" + u + ", " + s + ")", x.cost(u, s), m.cost(u, s));
            } else if (kind < 84) {
                boolean is = dice.nextInt(3) > 0;
                compare("away(" + u + ", " + w + ", " + is + ")", x.away(u, w, is), m.away(u, w, is));
            } else if (kind < 90) {
                compare("stood(" + u + ", " + w + ")", x.stood(u, w), m.stood(u, w));
            } else if (kind < 95) {
                int what = odd(dice.nextInt(6));
                compare("count(" + what + ")", x.count(what), m.count(what));
            } else {
                int what = odd(dice.nextInt(6));
                compare("about(" + u + ", " + what + ")", told(u, what), m.about(u, what));
            }
        }

        long told(int u, int what) {
            try {
                return x.about(u, what);
            } catch (NoSuchElementException e) {
                return Model.THROWN;
            }
        }
    }

    /** The document again, with lists and trials of every way instead of thought. */
    private static final class Model {
        static final long THROWN = Long.MIN_VALUE;
        static final int[][] BOUNDS = {
            {1, 9, 3}, {0, 9, 1}, {0, 200, 60}, {0, 50, 5}, {0, 9, 2}, {0, 9, 1}, {1, 101, 80}, {0, 100, 30}, {1, 20, 4},
        };
        static final List<String> WORDS =
                List.of("row", "again", "far", "fair", "won", "lost", "up", "down", "of");

        final List<Person> umpires = new ArrayList<>();
        final List<int[]> games = new ArrayList<>();
        final List<String> given = new ArrayList<>();
        String tape = "";
        int[] rules = usual();
        int fault;
        int week;

        static final class Person {
            int x;
            int y;
            int grade;
            int barred;
            int seat = -1;
            final List<Integer> away = new ArrayList<>();
            final List<int[]> stood = new ArrayList<>();
            final List<int[]> marks = new ArrayList<>();

            int clubs(int w) {
                for (int[] s : stood) {
                    if (s[0] == w) {
                        return s[1];
                    }
                }
                return 0;
            }
        }

        static int[] usual() {
            int[] all = new int[9];
            for (int k = 0; k < 9; k++) {
                all[k] = BOUNDS[k][2];
            }
            return all;
        }

        int feed(int... numbers) {
            if (tape.length() + 20 > 180) {
                return -1;
            }
            for (int n : numbers) {
                tape += "" + (char) (n >>> 24) + (char) (n >>> 16 & 255) + (char) (n >>> 8 & 255) + (char) (n & 255);
            }
            return tape.length();
        }

        boolean end(int n) {
            if (n < 0 || n > tape.length()) {
                return false;
            }
            tape = tape.substring(0, n);
            return true;
        }

        int rules() {
            String text = tape;
            tape = "";
            Matcher token = Pattern.compile("[a-z0-9]+|[^ \n]", Pattern.DOTALL).matcher(text);
            int[] then = usual();
            List<String> told = new ArrayList<>();
            int place = -1;
            int part = 0;
            fault = 0;
            while (place < 0 && token.find() && token.start() < 160) {
                String t = token.group();
                if (part == 0) {
                    fault = !WORDS.contains(t) ? 1 : told.contains(t) ? 3 : 0;
                    told.add(t);
                } else if (part == 1) {
                    int k = WORDS.indexOf(told.get(told.size() - 1));
                    if (!t.matches("[0-9]{1,3}")) {
                        fault = 1;
                    } else {
                        then[k] = Integer.parseInt(t);
                        fault = then[k] < BOUNDS[k][0] || then[k] > BOUNDS[k][1] ? 2 : 0;
                    }
                } else {
                    fault = t.equals(";") ? 0 : 1;
                }
                part = (part + 1) % 3;
                place = fault == 0 ? -1 : token.start();
            }
            if (fault == 0 && (part != 0 || text.length() > 160)) {
                fault = 1;
                place = Math.min(160, text.length());
            }
            if (fault != 0) {
                return -1 - place;
            }
            rules = then;
            return told.size();
        }

        int rule(int k) {
            return k < 0 || k > 8 ? -1 : rules[k];
        }

        static boolean in(int n, int least, int most) {
            return n >= least && n <= most;
        }

        int umpire(int x, int y, int grade, int barred) {
            boolean good = in(x, 0, 99) && in(y, 0, 99) && in(grade, 1, 4) && in(barred, 0, 4095);
            if (!good || umpires.size() == 20) {
                return -1;
            }
            Person p = new Person();
            p.x = x;
            p.y = y;
            p.grade = grade;
            p.barred = barred;
            umpires.add(p);
            return umpires.size() - 1;
        }

        boolean isUmpire(int u) {
            return in(u, 0, umpires.size() - 1);
        }

        boolean isSeat(int s) {
            return in(s, 0, 2 * games.size() - 1);
        }

        boolean away(int u, int w, boolean is) {
            if (!isUmpire(u) || !in(w, week, 99) || w == week && umpires.get(u).seat >= 0) {
                return false;
            }
            List<Integer> away = umpires.get(u).away;
            if (away.contains(w) == is) {
                return false;
            }
            return is ? away.add(w) : away.remove((Integer) w);
        }

        int game(int x, int y, int first, int second, int level) {
            boolean good = in(x, 0, 99) && in(y, 0, 99) && in(first, 0, 11) && in(second, 0, 11)
                    && first != second && in(level, 1, 4);
            if (!good || games.size() == 8) {
                return -1;
            }
            games.add(new int[] {x, y, (1 << first) + (1 << second), level});
            return games.size() - 1;
        }

        int miles(int u, int s) {
            int[] g = games.get(s / 2);
            return Math.abs(g[0] - umpires.get(u).x) + Math.abs(g[1] - umpires.get(u).y);
        }

        boolean may(int u, int s) {
            if (!isUmpire(u) || !isSeat(s)) {
                return false;
            }
            Person p = umpires.get(u);
            int[] g = games.get(s / 2);
            if (p.away.contains(week) || (p.barred & g[2]) != 0 || miles(u, s) > rules[2]) {
                return false;
            }
            if (p.grade > (s % 2 == 0 ? g[3] : g[3] + 1)) {
                return false;
            }
            int inRow = 0;
            for (int back = 1; back <= rules[0] && week - back >= 0; back++) {
                inRow += p.clubs(week - back) != 0 ? 1 : 0;
            }
            if (inRow == rules[0]) {
                return false;
            }
            for (int back = 1; back <= rules[1]; back++) {
                if ((p.clubs(week - back) & g[2]) != 0) {
                    return false;
                }
            }
            return true;
        }

        int cost(int u, int s) {
            return isUmpire(u) && isSeat(s) ? miles(u, s) + rules[3] * umpires.get(u).stood.size() : -1;
        }

        /** The best of all ways from each SEAT on, by the set of UMPIRES that are taken. */
        int send() {
            if (!given.isEmpty()) {
                return -1;
            }
            int seats = 2 * games.size();
            int sets = 1 << umpires.size();
            int[][] best = new int[seats + 1][sets];
            for (int s = seats - 1; s >= 0; s--) {
                boolean[] fits = new boolean[umpires.size()];
                int[] worth = new int[umpires.size()];
                for (int u = 0; u < umpires.size(); u++) {
                    fits[u] = may(u, s);
                    worth[u] = 1_000_000 - cost(u, s);
                }
                for (int set = 0; set < sets; set++) {
                    int most = best[s + 1][set];
                    for (int u = 0; u < umpires.size(); u++) {
                        if (fits[u] && (set >> u & 1) == 0) {
                            most = Math.max(most, worth[u] + best[s + 1][set | 1 << u]);
                        }
                    }
                    best[s][set] = most;
                }
            }
            return choose(best, seats);
        }

        int choose(int[][] best, int seats) {
            for (Person p : umpires) {
                p.seat = -1;
            }
            int set = 0;
            int filled = 0;
            for (int s = 0; s < seats; s++) {
                for (int u = 0; u < umpires.size(); u++) {
                    boolean free = (set >> u & 1) == 0 && may(u, s);
                    if (free && 1_000_000 - cost(u, s) + best[s + 1][set | 1 << u] == best[s][set]) {
                        umpires.get(u).seat = s;
                        set |= 1 << u;
                        filled++;
                        break;
                    }
                }
            }
            return filled;
        }

        int off(int u) {
            if (!isUmpire(u) || umpires.get(u).seat < 0 || !given.isEmpty()) {
                return -1;
            }
            int left = umpires.get(u).seat;
            umpires.get(u).seat = -1;
            umpires.get(u).away.add(week);
            List<int[]> ways = new ArrayList<>();
            for (int f = 0; f < umpires.size(); f++) {
                if (umpires.get(f).seat < 0 && may(f, left)) {
                    ways.add(new int[] {cost(f, left), f});
                }
            }
            if (!ways.isEmpty()) {
                ways.sort(Arrays::compare);
                umpires.get(ways.get(0)[1]).seat = left;
                return 1;
            }
            for (int k = 0; k < umpires.size(); k++) {
                int from = umpires.get(k).seat;
                for (int f = 0; f < umpires.size() && from >= 0 && may(k, left); f++) {
                    if (umpires.get(f).seat < 0 && may(f, from)) {
                        ways.add(new int[] {cost(k, left) + cost(f, from) - cost(k, from), from, f, k});
                    }
                }
            }
            if (ways.isEmpty()) {
                return 0;
            }
            ways.sort(Arrays::compare);
            umpires.get(ways.get(0)[3]).seat = left;
            umpires.get(ways.get(0)[2]).seat = ways.get(0)[1];
            return 2;
        }

        int seat(int s) {
            for (int u = 0; u < umpires.size(); u++) {
                if (s >= 0 && umpires.get(u).seat == s) {
                    return u;
                }
            }
            return -1;
        }

        boolean mark(int s, int captain, int marks, boolean won) {
            boolean good = isSeat(s) && in(captain, 0, 1) && in(marks, 0, 100);
            if (!good || seat(s) < 0 || given.contains(s + " " + captain)) {
                return false;
            }
            given.add(s + " " + captain);
            umpires.get(seat(s)).marks.add(new int[] {marks, rules[won ? 4 : 5]});
            return true;
        }

        int next() {
            if (week == 99) {
                return -1;
            }
            for (int u = 0; u < umpires.size(); u++) {
                Person p = umpires.get(u);
                if (p.seat >= 0) {
                    p.stood.add(new int[] {week, games.get(p.seat / 2)[2]});
                    p.seat = -1;
                }
                long times = about(u, 4);
                if (p.marks.size() >= rules[8] && times > 0) {
                    double mean = (double) about(u, 5) / times;
                    int change = mean >= rules[6] && p.grade > 1 ? -1 : mean <= rules[7] && p.grade < 4 ? 1 : 0;
                    p.grade += change;
                    if (change != 0) {
                        p.marks.clear();
                    }
                }
            }
            games.clear();
            given.clear();
            return ++week;
        }

        long about(int u, int what) {
            if (!isUmpire(u) || !in(what, 0, 5)) {
                return THROWN;
            }
            Person p = umpires.get(u);
            long times = 0;
            long sum = 0;
            for (int[] one : p.marks) {
                times += one[1];
                sum += (long) one[0] * one[1];
            }
            return new long[] {p.grade, p.seat, p.stood.size(), p.marks.size(), times, sum}[what];
        }

        int stood(int u, int w) {
            return isUmpire(u) && in(w, 0, week - 1) ? umpires.get(u).clubs(w) : -1;
        }

        int together() {
            int sum = 0;
            for (int u = 0; u < umpires.size(); u++) {
                if (umpires.get(u).seat >= 0) {
                    sum += cost(u, umpires.get(u).seat);
                }
            }
            return sum;
        }

        int count(int what) {
            int filled = 0;
            for (Person p : umpires) {
                filled += p.seat >= 0 ? 1 : 0;
            }
            int[] all = {week, umpires.size(), games.size(), filled, given.size(), tape.length()};
            return in(what, 0, 5) ? all[what] : -1;
        }
    }
}
