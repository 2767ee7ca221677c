import java.util.ArrayList;
import java.util.Arrays;
import java.util.List;
import java.util.NoSuchElementException;
import java.util.regex.Matcher;
import java.util.regex.Pattern;

/**
 * The document again, slow and plain: lists, and trials of every way instead of thought. It has the
 * face of the class, so that what is written for one can be tried on the other.
 */
final class PlainBoard {
    static final int NONE = -1;
    static final int[][] BOUNDS = {
        {1, 9, 3}, {0, 9, 1}, {0, 200, 60}, {0, 50, 5}, {0, 9, 2}, {0, 9, 1}, {1, 101, 80}, {0, 100, 30}, {1, 20, 4},
    };
    static final List<String> WORDS =
            List.of("row", "again", "far", "fair", "won", "lost", "up", "down", "of");

    final List<Person> umpires = new ArrayList<>();
    final List<int[]> games = new ArrayList<>();
    final List<String> given = new ArrayList<>();
    String tape = "";
    int[] rules = usual();
    int fault;
    int week;

    static final class Person {
        int x;
        int y;
        int grade;
        int barred;
        int seat = NONE;
        final List<Integer> away = new ArrayList<>();
        final List<int[]> stood = new ArrayList<>();
        final List<int[]> marks = new ArrayList<>();

        int clubs(int w) {
            for (int[] s : stood) {
                if (s[0] == w) {
                    return s[1];
                }
            }
            return 0;
        }

        int times() {
            return marks.stream().mapToInt(one -> one[1]).sum();
        }

        int sum() {
            return marks.stream().mapToInt(one -> one[0] * one[1]).sum();
        }
    }

    static int[] usual() {
        int[] all = new int[9];
        for (int k = 0; k < 9; k++) {
            all[k] = BOUNDS[k][2];
        }
        return all;
    }

    int feed(int... numbers) {
        if (tape.length() + 20 > 180) {
            return NONE;
        }
        for (int n : numbers) {
            tape += "" + (char) (n >>> 24) + (char) (n >>> 16 & 255) + (char) (n >>> 8 & 255) + (char) (n & 255);
        }
        return tape.length();
    }

    boolean end(int n) {
        if (n < 0 || n > tape.length()) {
            return false;
        }
        tape = tape.substring(0, n);
        return true;
    }

    int rules() {
        String text = tape;
        tape = "";
        Matcher token = Pattern.compile("[a-z0-9]+|[^ \n]", Pattern.DOTALL).matcher(text);
        int[] then = usual();
        List<String> told = new ArrayList<>();
        int place = -1;
        int part = 0;
        fault = 0;
        while (place < 0 && token.find() && token.start() < 160) {
            String t = token.group();
            if (part == 0) {
                fault = !WORDS.contains(t) ? 1 : told.contains(t) ? 3 : 0;
                told.add(t);
            } else if (part == 1) {
                int k = WORDS.indexOf(told.get(told.size() - 1));
                if (!t.matches("[0-9]{1,3}")) {
                    fault = 1;
                } else {
                    then[k] = Integer.parseInt(t);
                    fault = then[k] < BOUNDS[k][0] || then[k] > BOUNDS[k][1] ? 2 : 0;
                }
            } else {
                fault = t.equals(";") ? 0 : 1;
            }
            part = (part + 1) % 3;
            place = fault == 0 ? -1 : token.start();
        }
        if (fault == 0 && (part != 0 || text.length() > 160)) {
            fault = 1;
            place = Math.min(160, text.length());
        }
        if (fault != 0) {
            return -1 - place;
        }
        rules = then;
        return told.size();
    }

    int fault() {
        return fault;
    }

    int rule(int k) {
        return k < 0 || k > 8 ? NONE : rules[k];
    }

    static boolean in(int n, int least, int most) {
        return n >= least && n <= most;
    }

    int umpire(int x, int y, int grade, int barred) {
        boolean good = in(x, 0, 99) && in(y, 0, 99) && in(grade, 1, 4) && in(barred, 0, 4095);
        if (!good || umpires.size() == 20) {
            return NONE;
        }
        Person p = new Person();
        p.x = x;
        p.y = y;
        p.grade = grade;
        p.barred = barred;
        umpires.add(p);
        return umpires.size() - 1;
    }

    boolean isUmpire(int u) {
        return in(u, 0, umpires.size() - 1);
    }

    boolean isSeat(int s) {
        return in(s, 0, 2 * games.size() - 1);
    }

    boolean away(int u, int w, boolean is) {
        if (!isUmpire(u) || !in(w, week, 99) || w == week && umpires.get(u).seat >= 0) {
            return false;
        }
        List<Integer> away = umpires.get(u).away;
        if (away.contains(w) == is) {
            return false;
        }
        return is ? away.add(w) : away.remove((Integer) w);
    }

    int game(int x, int y, int first, int second, int level) {
        boolean good = in(x, 0, 99) && in(y, 0, 99) && in(first, 0, 11) && in(second, 0, 11)
                && first != second && in(level, 1, 4);
        if (!good || games.size() == 8) {
            return NONE;
        }
        games.add(new int[] {x, y, (1 << first) + (1 << second), level});
        return games.size() - 1;
    }

    int miles(int u, int s) {
        int[] g = games.get(s / 2);
        return Math.abs(g[0] - umpires.get(u).x) + Math.abs(g[1] - umpires.get(u).y);
    }

    boolean may(int u, int s) {
        if (!isUmpire(u) || !isSeat(s)) {
            return false;
        }
        Person p = umpires.get(u);
        int[] g = games.get(s / 2);
        if (p.away.contains(week) || (p.barred & g[2]) != 0 || miles(u, s) > rules[2]) {
            return false;
        }
        if (p.grade > (s % 2 == 0 ? g[3] : g[3] + 1)) {
            return false;
        }
        int inRow = 0;
        for (int back = 1; back <= rules[0] && week - back >= 0; back++) {
            inRow += p.clubs(week - back) != 0 ? 1 : 0;
        }
        if (inRow == rules[0]) {
            return false;
        }
        for (int back = 1; back <= rules[1]; back++) {
            if ((p.clubs(week - back) & g[2]) != 0) {
                return false;
            }
        }
        return true;
    }

    int cost(int u, int s) {
        return isUmpire(u) && isSeat(s) ? miles(u, s) + rules[3] * umpires.get(u).stood.size() : NONE;
    }

    /** The best of all ways from each SEAT on, by the set of UMPIRES that are taken. */
    int send() {
        if (!given.isEmpty()) {
            return NONE;
        }
        int seats = 2 * games.size();
        int sets = 1 << umpires.size();
        int[][] best = new int[seats + 1][sets];
        for (int s = seats - 1; s >= 0; s--) {
            boolean[] fits = new boolean[umpires.size()];
            int[] worth = new int[umpires.size()];
            for (int u = 0; u < umpires.size(); u++) {
                fits[u] = may(u, s);
                worth[u] = 1_000_000 - cost(u, s);
            }
            for (int set = 0; set < sets; set++) {
                int most = best[s + 1][set];
                for (int u = 0; u < umpires.size(); u++) {
                    if (fits[u] && (set >> u & 1) == 0) {
                        most = Math.max(most, worth[u] + best[s + 1][set | 1 << u]);
                    }
                }
                best[s][set] = most;
            }
        }
        return choose(best, seats);
    }

    int choose(int[][] best, int seats) {
        for (Person p : umpires) {
            p.seat = NONE;
        }
        int set = 0;
        int filled = 0;
        for (int s = 0; s < seats; s++) {
            for (int u = 0; u < umpires.size(); u++) {
                boolean free = (set >> u & 1) == 0 && may(u, s);
                if (free && 1_000_000 - cost(u, s) + best[s + 1][set | 1 << u] == best[s][set]) {
                    umpires.get(u).seat = s;
                    set |= 1 << u;
                    filled++;
                    break;
                }
            }
        }
        return filled;
    }

    int off(int u) {
        if (!isUmpire(u) || umpires.get(u).seat < 0 || !given.isEmpty()) {
            return NONE;
        }
        int left = umpires.get(u).seat;
        umpires.get(u).seat = NONE;
        umpires.get(u).away.add(week);
        List<int[]> ways = new ArrayList<>();
        for (int f = 0; f < umpires.size(); f++) {
            if (umpires.get(f).seat < 0 && may(f, left)) {
                ways.add(new int[] {cost(f, left), f});
            }
        }
        if (!ways.isEmpty()) {
            ways.sort(Arrays::compare);
            umpires.get(ways.get(0)[1]).seat = left;
            return 1;
        }
        for (int k = 0; k < umpires.size(); k++) {
            int from = umpires.get(k).seat;
            for (int f = 0; f < umpires.size() && from >= 0 && may(k, left); f++) {
                if (umpires.get(f).seat < 0 && may(f, from)) {
                    ways.add(new int[] {cost(k, left) + cost(f, from) - cost(k, from), from, f, k});
                }
            }
        }
        if (ways.isEmpty()) {
            return 0;
        }
        ways.sort(Arrays::compare);
        umpires.get(ways.get(0)[3]).seat = left;
        umpires.get(ways.get(0)[2]).seat = ways.get(0)[1];
        return 2;
    }

    int seat(int s) {
        for (int u = 0; u < umpires.size(); u++) {
            if (s >= 0 && umpires.get(u).seat == s) {
                return u;
            }
        }
        return NONE;
    }

    boolean mark(int s, int captain, int marks, boolean won) {
        boolean good = isSeat(s) && in(captain, 0, 1) && in(marks, 0, 100);
        if (!good || seat(s) < 0 || given.contains(s + " " + captain)) {
            return false;
        }
        given.add(s + " " + captain);
        umpires.get(seat(s)).marks.add(new int[] {marks, rules[won ? 4 : 5]});
        return true;
    }

    int next() {
        if (week == 99) {
            return NONE;
        }
        for (int u = 0; u < umpires.size(); u++) {
            Person p = umpires.get(u);
            if (p.seat >= 0) {
                p.stood.add(new int[] {week, games.get(p.seat / 2)[2]});
                p.seat = NONE;
            }
            int times = p.times();
            if (p.marks.size() >= rules[8] && times > 0) {
                double mean = (double) p.sum() / times;
                int change = mean >= rules[6] && p.grade > 1 ? -1 : mean <= rules[7] && p.grade < 4 ? 1 : 0;
                p.grade += change;
                if (change != 0) {
                    p.marks.clear();
                }
            }
        }
        games.clear();
        given.clear();
        return ++week;
    }

    int about(int u, int what) {
        if (!isUmpire(u) || !in(what, 0, 5)) {
            throw new NoSuchElementException();
        }
        Person p = umpires.get(u);
        return new int[] {p.grade, p.seat, p.stood.size(), p.marks.size(), p.times(), p.sum()}[what];
    }

    int stood(int u, int w) {
        return isUmpire(u) && in(w, 0, week - 1) ? umpires.get(u).clubs(w) : NONE;
    }

    int together() {
        int sum = 0;
        for (int u = 0; u < umpires.size(); u++) {
            if (umpires.get(u).seat >= 0) {
                sum += cost(u, umpires.get(u).seat);
            }
        }
        return sum;
    }

    int count(int what) {
        int filled = 0;
        for (Person p : umpires) {
            filled += p.seat >= 0 ? 1 : 0;
        }
        int[] all = {week, umpires.size(), games.size(), filled, given.size(), tape.length()};
        return in(what, 0, 5) ? all[what] : NONE;
    }
}
