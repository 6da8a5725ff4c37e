import java.util.ArrayDeque;
import java.util.ArrayList;
import java.util.Deque;
import java.util.LinkedHashMap;
import java.util.List;
import java.util.Map;
import java.util.Set;
import java.util.TreeSet;
import java.util.function.Predicate;

/**
 * The document once more, written apart from WatchLodgers and in another way (collections, a recursive parser over a
 * list of tokens, whole copies), so that a slip in one of the two shows as a difference.
 */
final class Model {
    static final class Guest {
        String name;
        int floor, energy, blankets, coins, debt, sick, kept, keptToday;
        boolean gone;

        Guest copy() {
            Guest g = new Guest();
            g.name = name;
            g.floor = floor;
            g.energy = energy;
            g.blankets = blankets;
            g.coins = coins;
            g.debt = debt;
            g.sick = sick;
            g.kept = kept;
            g.keptToday = keptToday;
            g.gone = gone;
            return g;
        }
    }

    static final class State {
        int floors, rent, wage, fund, meals, gulls, passed, dark, substituted, previous = -1;
        int[] storm = new int[7];
        List<Guest> guests = new ArrayList<>();
        Map<Integer, Integer> roster = new LinkedHashMap<>();
        Set<Integer> exempt = new TreeSet<>();

        State copy() {
            State s = new State();
            s.floors = floors;
            s.rent = rent;
            s.wage = wage;
            s.fund = fund;
            s.meals = meals;
            s.gulls = gulls;
            s.passed = passed;
            s.dark = dark;
            s.substituted = substituted;
            s.previous = previous;
            s.storm = storm.clone();
            for (Guest g : guests) {
                s.guests.add(g.copy());
            }
            s.roster = new LinkedHashMap<>(roster);
            s.exempt = new TreeSet<>(exempt);
            return s;
        }

        List<Guest> present() {
            List<Guest> list = new ArrayList<>(guests);
            list.removeIf(g -> g.gone);
            return list;
        }

        int cost(int i) {
            return floors - guests.get(i).floor + storm[passed / 4 % 7] / 2;
        }

        int obstacle(int i) {
            Guest g = guests.get(i);
            boolean[] tests = {g.gone, exempt.contains(4 * i + passed % 4), g.energy < cost(i), previous == i, g.sick > 0};
            for (int t = 0; t < tests.length; t++) {
                if (tests[t]) {
                    return t + 1;
                }
            }
            return 0;
        }

        int rostered() {
            return roster.getOrDefault(passed % 28, -1);
        }

        int keeper() {
            int r = rostered();
            if (r >= 0 && obstacle(r) == 0) {
                return r;
            }
            int best = -1;
            for (int i = guests.size() - 1; i >= 0; i--) {
                if (obstacle(i) == 0 && (best < 0 || guests.get(i).kept <= guests.get(best).kept)) {
                    best = i;
                }
            }
            return best;
        }

        boolean substitute() {
            int r = rostered();
            return keeper() >= 0 && (r < 0 || obstacle(r) != 0);
        }

        void watch() {
            int k = keeper();
            substituted += substitute() ? 1 : 0;
            if (k < 0) {
                dark++;
                fund = fund < 5 ? 0 : fund - 5;
            } else {
                Guest g = guests.get(k);
                g.energy -= cost(k);
                g.coins += wage;
                g.kept++;
                g.keptToday++;
            }
            if (passed % 4 == 3) {
                endDay();
            }
            previous = k;
            passed++;
        }

        void feast() {
            for (Guest g : present()) {
                g.energy = meals > 0 ? Math.min(30, g.energy + 6) : Math.max(0, g.energy - 4);
                meals = Math.max(0, meals - 1);
            }
        }

        void endDay() {
            for (Guest g : present()) {
                g.energy = g.keptToday == 0 ? Math.min(30, g.energy + 2) : g.energy;
                g.sick = Math.max(0, g.sick - 1);
            }
            meals = Math.max(0, meals - gulls);
            gulls = meals > 0 ? Math.min(20, gulls + 1) : Math.max(0, gulls - 1);
            feast();
            for (Guest g : present()) {
                g.energy = Math.max(0, g.energy - Math.max(0, storm[passed / 4 % 7] - 3 * g.blankets));
                g.sick = g.energy == 0 ? 2 : g.sick;
            }
            for (Guest g : present()) {
                int owed = owed(g);
                int paid = Math.min(owed, g.coins);
                g.coins -= paid;
                fund += paid;
                g.debt += owed - paid;
                if (g.debt > 50) {
                    int i = guests.indexOf(g);
                    g.gone = true;
                    roster.values().removeIf(l -> l == i);
                    exempt.removeIf(e -> e / 4 == i);
                }
            }
            for (Guest g : guests) {
                g.keptToday = 0;
            }
        }

        int owed(Guest g) {
            return g.gone ? 0 : Math.max(0, rent - 2 * g.keptToday);
        }
    }

    static final class Fault extends RuntimeException {
        final int code;
        final int at;

        Fault(int code, int at) {
            this.code = code;
            this.at = at;
        }
    }

    record Token(char kind, String text, int at) {
    }

    /** Tokens by kind: w word, n number, ; ( ) themselves, x none, e the end. */
    static List<Token> tokens(String text) {
        List<Token> list = new ArrayList<>();
        int at = 0;
        while (at < text.length()) {
            char c = text.charAt(at);
            if (c == ' ') {
                at++;
                continue;
            }
            Predicate<Character> same = c >= 'a' && c <= 'z' ? d -> d >= 'a' && d <= 'z'
                    : c >= '0' && c <= '9' ? d -> d >= '0' && d <= '9' : d -> false;
            int end = at + 1;
            while (end < text.length() && same.test(text.charAt(end))) {
                end++;
            }
            char kind = c >= 'a' && c <= 'z' ? (end - at > 7 ? 'x' : 'w') : c >= '0' && c <= '9' ? (end - at > 3 ? 'x' : 'n')
                    : ";()".indexOf(c) >= 0 ? c : 'x';
            list.add(new Token(kind, text.substring(at, end), at));
            at = end;
        }
        list.add(new Token('e', "", text.length()));
        return list;
    }

    static final class Reader {
        final List<Token> tokens;
        final State s = new State();
        int next;

        Reader(String text) {
            tokens = tokens(text);
        }

        Token take(char kind) {
            Token t = tokens.get(next);
            need(t.kind == kind, 1, t);
            next++;
            return t;
        }

        void need(boolean holds, int code, Token t) {
            if (!holds) {
                throw new Fault(code, t.at);
            }
        }

        Token last() {
            return tokens.get(next - 1);
        }

        int number(int least, int greatest) {
            Token t = take('n');
            int value = Integer.parseInt(t.text);
            need(value >= least && value <= greatest, 2, t);
            return value;
        }

        int guest(boolean mustBePresent) {
            int i = number(0, s.guests.size() - 1);
            need(!mustBePresent || !s.guests.get(i).gone, 3, last());
            return i;
        }

        int entry(boolean mustExist) {
            int e = 4 * number(0, 6) + number(0, 3);
            need(!mustExist || s.roster.containsKey(e), 3, last());
            return e;
        }

        State read() {
            Token t = take('w');
            need(t.text.equals("house"), 1, t);
            s.floors = number(2, 9);
            s.rent = number(0, 50);
            s.wage = number(0, 20);
            while (tokens.get(next).kind == ';') {
                next++;
                line(0);
            }
            take('e');
            need(!s.guests.isEmpty(), 4, last());
            return s;
        }

        void line(int depth) {
            Token t = take('w');
            switch (t.text) {
                case "lodger" -> lodger(t);
                case "roster" -> {
                    int e = entry(false);
                    s.roster.put(e, guest(true));
                }
                case "clear" -> s.roster.remove(entry(true));
                case "exempt" -> {
                    int e = 4 * guest(true) + number(0, 3);
                    need(s.exempt.add(e), 3, last());
                }
                case "release" -> {
                    int e = 4 * guest(true) + number(0, 3);
                    need(s.exempt.remove(e), 3, last());
                }
                case "storm" -> {
                    int d = number(0, 6);
                    s.storm[d] = number(0, 9);
                }
                case "gale" -> java.util.Arrays.fill(s.storm, number(0, 9));
                case "meals" -> s.meals += number(1, 100);
                case "gulls" -> s.gulls = number(0, 20);
                case "blanket" -> {
                    Guest g = s.guests.get(guest(true));
                    need(g.blankets++ < 3, 3, last());
                }
                case "swap" -> {
                    int a = entry(true);
                    int b = entry(true);
                    need(a != b, 3, last());
                    s.roster.put(a, s.roster.put(b, s.roster.get(a)));
                }
                case "copy" -> {
                    int a = number(0, 6);
                    int b = number(0, 6);
                    need(a != b, 3, last());
                    for (int w = 0; w < 4; w++) {
                        if (s.roster.containsKey(4 * a + w)) {
                            s.roster.put(4 * b + w, s.roster.get(4 * a + w));
                        }
                    }
                }
                case "tidy" -> s.roster.entrySet().removeIf(e -> s.exempt.contains(4 * e.getValue() + e.getKey() % 4));
                case "rotate" -> s.roster.replaceAll((e, l) -> rotated(l));
                case "feast" -> s.feast();
                case "move" -> {
                    Guest g = s.guests.get(guest(true));
                    int f = number(0, s.floors - 1);
                    need(f != g.floor, 3, last());
                    g.floor = f;
                }
                case "lend" -> {
                    Guest a = s.guests.get(guest(false));
                    Guest b = s.guests.get(guest(false));
                    need(a != b, 3, last());
                    int n = number(1, 200);
                    need(n <= a.coins, 3, last());
                    a.coins -= n;
                    b.coins += n;
                }
                case "pay" -> {
                    Guest g = s.guests.get(guest(true));
                    int n = Math.min(g.coins, g.debt);
                    g.coins -= n;
                    g.debt -= n;
                    s.fund += n;
                }
                case "readmit" -> {
                    Guest g = s.guests.get(guest(false));
                    need(g.gone, 3, last());
                    g.gone = false;
                    g.debt = 0;
                }
                case "watches" -> {
                    int n = number(1, 60);
                    need(s.passed + n <= 1000, 4, last());
                    for (int i = 0; i < n; i++) {
                        s.watch();
                    }
                }
                case "repeat" -> {
                    need(depth < 2, 4, t);
                    int times = number(1, 9);
                    take('(');
                    int body = next;
                    for (int i = 0; i < times; i++) {
                        next = body;
                        line(depth + 1);
                        while (tokens.get(next).kind == ';') {
                            next++;
                            line(depth + 1);
                        }
                        take(')');
                    }
                }
                default -> need(false, 1, t);
            }
        }

        void lodger(Token word) {
            need(s.guests.size() < 8, 4, word);
            Token name = take('w');
            need(name.text.length() <= 6 && s.guests.stream().noneMatch(o -> o.name.equals(name.text)), 3, name);
            Guest g = new Guest();
            g.name = name.text;
            g.floor = number(0, s.floors - 1);
            g.energy = number(0, 30);
            g.blankets = number(0, 3);
            g.coins = number(0, 200);
            s.guests.add(g);
        }

        int rotated(int l) {
            int least = -1;
            for (int i = s.guests.size() - 1; i >= 0; i--) {
                if (!s.guests.get(i).gone && i > l) {
                    least = i;
                }
            }
            for (int i = 0; least < 0; i++) {
                if (!s.guests.get(i).gone) {
                    least = i;
                }
            }
            return least;
        }
    }

    State s;
    StringBuilder buffer = new StringBuilder();
    int error;
    int errorAt = -1;
    String written = "";
    Deque<State> undo = new ArrayDeque<>();
    State[] saved = new State[2];

    // ---- what is required

    State house() {
        if (s == null) {
            throw new IllegalStateException();
        }
        return s;
    }

    Guest guest(int i) {
        index(i, house().guests.size());
        return s.guests.get(i);
    }

    static void index(int i, int n) {
        if (i < 0 || i >= n) {
            throw new IndexOutOfBoundsException();
        }
    }

    static void argument(boolean holds) {
        if (!holds) {
            throw new IllegalArgumentException();
        }
    }

    void change() {
        undo.push(s.copy());
        if (undo.size() > 8) {
            undo.removeLast();
        }
    }

    State after(int watches) {
        argument(watches >= 0 && watches <= 300);
        State t = s.copy();
        for (int i = 0; i < watches; i++) {
            t.watch();
        }
        return t;
    }

    // ---- the calls

    int append(int a, int b, int c, int d, int e) {
        if (buffer.length() > 580) {
            return -1;
        }
        for (int word : new int[] {a, b, c, d, e}) {
            for (byte part : java.nio.ByteBuffer.allocate(4).putInt(word).array()) {
                buffer.append((char) (part & 255));
            }
        }
        return buffer.length();
    }

    int load(int length) {
        if (length < 0 || length > buffer.length()) {
            throw new IndexOutOfBoundsException();
        }
        String text = buffer.substring(0, length);
        buffer.setLength(0);
        try {
            s = new Reader(text).read();
        } catch (Fault fault) {
            error = fault.code;
            errorAt = fault.at;
            throw new IllegalArgumentException();
        }
        error = 0;
        errorAt = -1;
        undo.clear();
        saved = new State[2];
        return s.guests.size();
    }

    int writeRoster(int weekday) {
        house();
        index(weekday, 7);
        List<String> names = new ArrayList<>();
        for (int w = 0; w < 4; w++) {
            Integer l = s.roster.get(4 * weekday + w);
            names.add(l == null ? "-" : s.guests.get(l).name);
        }
        written = String.join(" ", names);
        return written.length();
    }

    int writeLodger(int lodger) {
        Guest g = guest(lodger);
        written = g.name + (g.gone ? "!" : "") + ":" + g.energy + (g.debt != 0 ? "-" + g.debt : "");
        return written.length();
    }

    int textByte(int i) {
        index(i, written.length());
        return written.charAt(i);
    }

    int watchesUntil(Predicate<State> reached) {
        State t = s.copy();
        for (int n = 0; n <= 300; n++) {
            if (reached.test(t)) {
                return n;
            }
            t.watch();
        }
        return -1;
    }

    int watchesUntilDark() {
        int now = house().dark;
        return watchesUntil(t -> t.dark > now);
    }

    int watchesUntilGone(int lodger) {
        guest(lodger);
        return watchesUntil(t -> t.guests.get(lodger).gone);
    }

    int passWatches(int watches) {
        house();
        argument(watches >= 1 && watches <= 60);
        change();
        int before = s.dark;
        s = after(watches);
        return s.dark - before;
    }

    int entry(int weekday, int watch) {
        house();
        index(weekday, 7);
        index(watch, 4);
        return 4 * weekday + watch;
    }

    int assign(int weekday, int watch, int lodger) {
        int e = entry(weekday, watch);
        argument(!guest(lodger).gone);
        change();
        Integer before = s.roster.put(e, lodger);
        return before == null ? -1 : before;
    }

    int clear(int weekday, int watch) {
        int e = entry(weekday, watch);
        argument(s.roster.containsKey(e));
        change();
        return s.roster.remove(e);
    }

    boolean setExempt(int lodger, int watch, boolean exempt) {
        Guest g = guest(lodger);
        index(watch, 4);
        argument(!g.gone);
        change();
        int e = 4 * lodger + watch;
        return exempt ? !s.exempt.add(e) : s.exempt.remove(e);
    }

    int giveBlanket(int lodger) {
        Guest g = guest(lodger);
        argument(!g.gone && g.blankets < 3);
        change();
        return ++g.blankets;
    }

    int bringMeals(int count) {
        house();
        argument(count >= 1 && count <= 100);
        change();
        return s.meals += count;
    }

    int setStorm(int weekday, int strength) {
        house();
        index(weekday, 7);
        argument(strength >= 0 && strength <= 9);
        change();
        int before = s.storm[weekday];
        s.storm[weekday] = strength;
        return before;
    }

    int undo() {
        if (undo.isEmpty()) {
            throw new IllegalStateException();
        }
        s = undo.pop();
        return undo.size();
    }

    int save(int slot) {
        house();
        index(slot, 2);
        saved[slot] = s.copy();
        return s.passed;
    }

    int restore(int slot) {
        index(slot, 2);
        if (saved[slot] == null) {
            throw new IllegalStateException();
        }
        s = saved[slot].copy();
        undo.clear();
        return s.passed;
    }
}
