import java.util.ArrayDeque;
import java.util.ArrayList;
import java.util.Arrays;
import java.util.Deque;
import java.util.HashMap;
import java.util.List;
import java.util.Map;
import java.util.regex.Matcher;
import java.util.regex.Pattern;

/**
 * The document told a second time, in another way than the program: guests as objects that count for themselves, a
 * book with a row for each dance, couples by a table of all sets of free followers, texts by a regular expression.
 */
final class Model {
    private static final Pattern LIST = Pattern.compile("([lf][0-9][0-9]?,[1-9]-?;)*");

    static final class Guest {
        int tokens;
        int size;
        boolean shoes;
        boolean here = true;
        int tonight;
        int ever;

        Guest(int tokens, int size, boolean shoes) {
            this.tokens = tokens;
            this.size = size;
            this.shoes = shoes;
        }

        Guest copy() {
            Guest g = new Guest(tokens, size, shoes);
            g.here = here;
            g.tonight = tonight;
            g.ever = ever;
            return g;
        }
    }

    static final class Memory {
        List<Guest> leaders = new ArrayList<>();
        List<Guest> followers = new ArrayList<>();
        int[] pairs = {0, 1, 1, 1, 1, 1, 1, 1, 1, 1};
        int lamps = 3;
        int oil = 60;
        int fiddlers = 2;
        int[] part = {1, 1, 1, 1};
        int[] got = new int[4];
        int bag;
        int night;
        int couplesTonight;
        int couplesEver;
        int burned;
        List<int[]> book = new ArrayList<>();

        Memory copy() {
            Memory m = new Memory();
            leaders.forEach(g -> m.leaders.add(g.copy()));
            followers.forEach(g -> m.followers.add(g.copy()));
            m.pairs = pairs.clone();
            m.lamps = lamps;
            m.oil = oil;
            m.fiddlers = fiddlers;
            m.part = part.clone();
            m.got = got.clone();
            m.bag = bag;
            m.night = night;
            m.couplesTonight = couplesTonight;
            m.couplesEver = couplesEver;
            m.burned = burned;
            book.forEach(row -> m.book.add(row.clone()));
            return m;
        }

        List<Guest> side(boolean leads) {
            return leads ? leaders : followers;
        }
    }

    Memory now = new Memory();
    final Deque<Memory> saved = new ArrayDeque<>();
    String text = "";

    // What a dance would be: the size lent to each guest (-1: it cannot dance, 0: it has its own), the pairs left.
    static final class Lent {
        final Map<Guest, Integer> size = new HashMap<>();
        int[] left;

        boolean can(Guest g) {
            return size.get(g) >= 0;
        }
    }

    static Lent lend(Memory m, int[] pairs) {
        Lent lent = new Lent();
        lent.left = pairs.clone();
        List<Guest> all = new ArrayList<>(m.leaders);
        all.addAll(m.followers);
        for (Guest g : all) {
            int size = -1;
            if (g.here && g.tokens > 0) {
                if (g.shoes) {
                    size = 0;
                } else if (lent.left[g.size] > 0) {
                    size = g.size;
                } else if (g.size + 1 < 10 && lent.left[g.size + 1] > 0) {
                    size = g.size + 1;
                }
            }
            if (size > 0) {
                lent.left[size]--;
            }
            lent.size.put(g, size);
        }
        return lent;
    }

    static int danceOf(Memory m, int leader, int follower) {
        for (int d = 0; d < m.book.size(); d++) {
            if (m.book.get(d)[leader] == follower) {
                return d;
            }
        }
        return -1;
    }

    /** The first of the best ways: the follower of each leader, -1 for none. */
    static int[] couples(Memory m, int lit) {
        int leaders = m.leaders.size();
        int followers = m.followers.size();
        Lent lent = lend(m, m.pairs);
        boolean[][] may = new boolean[leaders][followers];
        for (int l = 0; l < leaders; l++) {
            for (int f = 0; f < followers; f++) {
                may[l][f] = lent.can(m.leaders.get(l)) && lent.can(m.followers.get(f)) && danceOf(m, l, f) < 0;
            }
        }
        int sets = 1 << followers;
        int[][] most = new int[leaders + 1][sets];
        for (int l = leaders - 1; l >= 0; l--) {
            for (int set = 0; set < sets; set++) {
                most[l][set] = most[l + 1][set];
                for (int f = 0; f < followers; f++) {
                    if (may[l][f] && (set >> f & 1) == 1) {
                        most[l][set] = Math.max(most[l][set], 1 + most[l + 1][set - (1 << f)]);
                    }
                }
            }
        }
        int free = sets - 1;
        int due = Math.min(most[0][free], 2 * lit);
        int[] chosen = new int[8];
        Arrays.fill(chosen, -1);
        for (int l = 0; l < leaders; l++) {
            for (int f = 0; f < followers && chosen[l] < 0; f++) {
                if (due > 0 && may[l][f] && (free >> f & 1) == 1 && most[l + 1][free - (1 << f)] >= due - 1) {
                    chosen[l] = f;
                    free -= 1 << f;
                    due--;
                }
            }
        }
        return chosen;
    }

    static int count(int[] chosen) {
        int sum = 0;
        for (int f : chosen) {
            sum += f >= 0 ? 1 : 0;
        }
        return sum;
    }

    static int lit(Memory m, int lamps) {
        int lit = lamps;
        while (2 * lit > m.oil) {
            lit--;
        }
        return lit;
    }

    static int play(Memory m) {
        int lit = lit(m, m.lamps);
        int[] chosen = couples(m, lit);
        for (int l = 0; l < 8; l++) {
            if (chosen[l] >= 0) {
                for (Guest g : new Guest[] {m.leaders.get(l), m.followers.get(chosen[l])}) {
                    g.tokens--;
                    g.tonight++;
                    g.ever++;
                    m.bag++;
                }
                m.couplesTonight++;
                m.couplesEver++;
            }
        }
        m.oil -= 2 * lit;
        m.burned += 2 * lit;
        m.book.add(chosen);
        return count(chosen);
    }

    static int playOn(Memory m) {
        int dances = 0;
        boolean goes = true;
        while (goes && lit(m, m.lamps) > 0 && m.book.size() < 30) {
            goes = play(m) > 0;
            dances++;
        }
        return dances;
    }

    void save() {
        saved.addLast(now.copy());
        if (saved.size() > 4) {
            saved.removeFirst();
        }
    }

    static void index(boolean holds) {
        if (!holds) {
            throw new IndexOutOfBoundsException();
        }
    }

    static void argument(boolean holds) {
        if (!holds) {
            throw new IllegalArgumentException();
        }
    }

    static void state(boolean holds) {
        if (!holds) {
            throw new IllegalStateException();
        }
    }

    Guest find(boolean leads, int guest) {
        index(guest >= 0 && guest < now.side(leads).size());
        return now.side(leads).get(guest);
    }

    int addGuest(boolean leads, int tokens, int size, boolean shoes) {
        argument(tokens >= 0 && tokens <= 99 && size >= 1 && size <= 9);
        state(now.side(leads).size() < 8);
        save();
        now.side(leads).add(new Guest(tokens, size, shoes));
        return now.side(leads).size() - 1;
    }

    int giveTokens(boolean leads, int guest, int tokens) {
        Guest g = find(leads, guest);
        argument(tokens >= -99 && tokens <= 99);
        state(g.tokens + tokens >= 0 && g.tokens + tokens <= 99);
        save();
        return g.tokens += tokens;
    }

    int setHere(boolean leads, int guest, boolean here) {
        Guest g = find(leads, guest);
        save();
        int before = g.here ? 1 : 0;
        g.here = here;
        return before;
    }

    int setShoes(int size, int pairs) {
        index(size >= 1 && size <= 9);
        argument(pairs >= 0 && pairs <= 9);
        save();
        int before = now.pairs[size];
        now.pairs[size] = pairs;
        return before;
    }

    int setLamps(int lamps, int oil) {
        argument(lamps >= 1 && lamps <= 6 && oil >= 0 && oil <= 999);
        save();
        int before = now.oil;
        now.lamps = lamps;
        now.oil = oil;
        return before;
    }

    int setFiddlers(int fiddlers) {
        argument(fiddlers >= 1 && fiddlers <= 4);
        save();
        int before = now.fiddlers;
        now.fiddlers = fiddlers;
        now.part = new int[] {1, 1, 1, 1};
        return before;
    }

    int setPart(int fiddler, int part) {
        index(fiddler >= 0 && fiddler < now.fiddlers);
        argument(part >= 1 && part <= 9);
        save();
        int before = now.part[fiddler];
        now.part[fiddler] = part;
        return before;
    }

    int dance() {
        state(lit(now, now.lamps) > 0 && now.book.size() < 30);
        save();
        return play(now);
    }

    int danceOn() {
        save();
        return playOn(now);
    }

    static int[] cuts(Memory m) {
        int sum = 0;
        for (int f = 0; f < m.fiddlers; f++) {
            sum += m.part[f];
        }
        int[] cut = new int[4];
        int rest = m.bag;
        for (int f = 0; f < m.fiddlers; f++) {
            cut[f] = m.bag * m.part[f] / sum;
            rest -= cut[f];
        }
        cut[0] += rest;
        return cut;
    }

    int endNight() {
        save();
        int[] cut = cuts(now);
        int bag = now.bag;
        for (int f = 0; f < 4; f++) {
            now.got[f] += cut[f];
        }
        now.bag = 0;
        now.night++;
        clearNight();
        return bag;
    }

    private void clearNight() {
        now.book.clear();
        now.couplesTonight = 0;
        for (boolean leads : new boolean[] {true, false}) {
            for (Guest g : now.side(leads)) {
                g.here = true;
                g.tonight = 0;
            }
        }
    }

    int guest(boolean leads, int guest, int what) {
        Guest g = find(leads, guest);
        argument(what >= 0 && what <= 7);
        int lent = lend(now, now.pairs).size.get(g);
        int[] facts = {g.tokens, g.size, g.shoes ? 1 : 0, g.here ? 1 : 0, lent >= 0 ? 1 : 0, Math.max(lent, 0),
            g.tonight, g.ever};
        return facts[what];
    }

    int value(int what) {
        argument(what >= 0 && what <= 13);
        int parts = 0;
        for (int f = 0; f < now.fiddlers; f++) {
            parts += now.part[f];
        }
        int lit = lit(now, now.lamps);
        int[] numbers = {now.leaders.size(), now.followers.size(), now.lamps, now.oil, lit, 2 * lit, now.night,
            now.book.size(), now.couplesTonight, now.bag, now.fiddlers, parts, now.couplesEver, now.burned};
        return numbers[what];
    }

    int shoes(int size, boolean left) {
        index(size >= 1 && size <= 9);
        return left ? lend(now, now.pairs).left[size] : now.pairs[size];
    }

    int fiddler(int fiddler, int what) {
        index(fiddler >= 0 && fiddler < now.fiddlers);
        argument(what >= 0 && what <= 2);
        return new int[] {now.part[fiddler], now.got[fiddler], cuts(now)[fiddler]}[what];
    }

    int danced(int leader, int follower) {
        find(true, leader);
        find(false, follower);
        return danceOf(now, leader, follower);
    }

    int partner(int dance, int leader) {
        index(dance >= 0 && dance < now.book.size());
        find(true, leader);
        return now.book.get(dance)[leader];
    }

    int next(int leader) {
        find(true, leader);
        return couples(now, lit(now, now.lamps))[leader];
    }

    int couplesWith(int lamps) {
        argument(lamps >= 1 && lamps <= 6);
        return count(couples(now, lit(now, lamps)));
    }

    int dancesLeft() {
        return playOn(now.copy());
    }

    int bestSize() {
        int most = dancers(now.pairs);
        int best = -1;
        for (int size = 9; size >= 1; size--) {
            int[] more = now.pairs.clone();
            more[size]++;
            int dancers = dancers(more);
            if (dancers > dancers(now.pairs) && dancers >= most) {
                most = dancers;
                best = size;
            }
        }
        return best;
    }

    private int dancers(int[] pairs) {
        int sum = 0;
        for (int size : lend(now, pairs).size.values()) {
            sum += size >= 0 ? 1 : 0;
        }
        return sum;
    }

    double share() {
        int all = now.leaders.size() * now.followers.size();
        return all == 0 ? 0.0 : (double) now.couplesTonight / (double) all;
    }

    int append(int value) {
        argument(value >= 0 && value <= 127);
        state(text.length() < 100);
        text += (char) value;
        return text.length();
    }

    int clearText() {
        int before = text.length();
        text = "";
        return before;
    }

    /** Whether a list of guests can begin so. */
    private static boolean canBegin(String start) {
        Matcher matcher = LIST.matcher(start);
        boolean fits = matcher.matches() || matcher.hitEnd();
        return fits && letters(start, 'l') <= 8 && letters(start, 'f') <= 8;
    }

    private static long letters(String part, char letter) {
        return part.chars().filter(c -> c == letter).count();
    }

    int parse() {
        for (int end = 1; end <= text.length(); end++) {
            if (!canBegin(text.substring(0, end))) {
                return -10 - (end - 1);
            }
        }
        if (!LIST.matcher(text).matches()) {
            return -10 - text.length();
        }
        save();
        now.leaders.clear();
        now.followers.clear();
        for (String entry : text.isEmpty() ? new String[0] : text.split(";")) {
            String[] halves = entry.substring(1).split(",");
            int size = halves[1].charAt(0) - '0';
            now.side(entry.charAt(0) == 'l')
                    .add(new Guest(Integer.parseInt(halves[0]), size, !halves[1].endsWith("-")));
        }
        clearNight();
        return now.leaders.size() + now.followers.size();
    }

    int undo() {
        state(!saved.isEmpty());
        now = saved.removeLast();
        return saved.size();
    }

    long digest() {
        List<Integer> values = new ArrayList<>();
        values.add(text.length());
        for (int what = 0; what < 14; what++) {
            values.add(value(what));
        }
        for (int size = 1; size <= 9; size++) {
            values.add(shoes(size, false));
            values.add(shoes(size, true));
        }
        for (boolean leads : new boolean[] {true, false}) {
            for (int g = 0; g < now.side(leads).size(); g++) {
                for (int what = 0; what < 8; what++) {
                    values.add(guest(leads, g, what));
                }
            }
        }
        for (int l = 0; l < now.leaders.size(); l++) {
            for (int f = 0; f < now.followers.size(); f++) {
                values.add(danced(l, f));
            }
            values.add(next(l));
        }
        for (int f = 0; f < now.fiddlers; f++) {
            for (int what = 0; what < 3; what++) {
                values.add(fiddler(f, what));
            }
        }
        values.add(saved.size());
        long h = 3527;
        for (int v : values) {
            h = 31 * h + v;
        }
        return h;
    }
}
