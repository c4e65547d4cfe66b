import java.nio.charset.StandardCharsets;
import java.util.ArrayDeque;
import java.util.ArrayList;
import java.util.Arrays;
import java.util.HashMap;
import java.util.HashSet;
import java.util.LinkedHashMap;
import java.util.List;
import java.util.Map;
import java.util.Set;
import java.util.regex.Matcher;
import java.util.regex.Pattern;

/** The document once more, slow and plain, to hold HallTables against: every answer by trying what can be tried. */
final class Model {
    private static final int NONE = -1;
    private static final int NEVER = -2;
    private static final List<String> WORDS = List.of("sort", "house", "door", "worth", "shop", "hall", "man", "law",
            "call", "any", "dearest", "cheapest");
    /** A sign a kind of TOKEN: S H D W P L M A C the TELLS, k a kind of LAW, n i ; : , and x for what is none. */
    private static final String SIGNS = "SHDWPLMACkkk";
    private static final Pattern TOKEN = Pattern.compile("[a-z]+|[0-9]+|[^\\t\\n\\r ]", Pattern.DOTALL);
    private static final Pattern GRAMMAR = Pattern.compile(
            "(Sni;|Hn;|Dnni;|Wnni;|Pnn;|Lnni;|Mnn(:ni(,ni)*)?;|Ak;|Cnn;)*");
    private static final String[] ROOMS = {"S5", "H10", "D20", "M6", "C20"};

    /** All that happens; a copy is made to come back to it. */
    static final class State {
        int[] at;
        int[][] hand;
        int[] minutes;
        int[] loss;
        int[][] table;

        State copy() {
            State s = new State();
            s.at = at.clone();
            s.minutes = minutes.clone();
            s.loss = loss.clone();
            s.hand = deep(hand);
            s.table = deep(table);
            return s;
        }

        private static int[][] deep(int[][] rows) {
            int[][] copy = new int[rows.length][];
            for (int i = 0; i < rows.length; i++) {
                copy[i] = rows[i].clone();
            }
            return copy;
        }
    }

    private final StringBuilder tape = new StringBuilder();
    private int place = NONE;
    private List<String> sorts = new ArrayList<>();
    private List<Integer> plain = new ArrayList<>();
    private List<String> houses = new ArrayList<>();
    private List<String> men = new ArrayList<>();
    private List<Integer> homes = new ArrayList<>();
    private List<int[]> hands = new ArrayList<>();
    private List<int[]> calls = new ArrayList<>();
    private Map<String, Integer> worths = new HashMap<>();
    private Map<String, Integer> halls = new HashMap<>();
    private Set<String> shops = new HashSet<>();
    private Map<String, Integer> doors = new HashMap<>();
    private int doorsTold = 0;
    private int law = 0;
    private State now = new State();
    private final ArrayDeque<State> past = new ArrayDeque<>();
    private final State[] slots = new State[3];
    private final List<int[]> seen = new ArrayList<>();

    Model() {
        start();
    }

    private void start() {
        now = first();
        past.clear();
        Arrays.fill(slots, null);
        seen.clear();
    }

    private State first() {
        State s = new State();
        s.at = new int[men.size()];
        s.hand = new int[men.size()][];
        s.minutes = new int[men.size()];
        s.loss = new int[men.size()];
        for (int m = 0; m < men.size(); m++) {
            s.at[m] = homes.get(m);
            s.hand[m] = hands.get(m).clone();
        }
        s.table = new int[houses.size()][sorts.size()];
        for (int h = 0; h < houses.size(); h++) {
            for (int t = 0; t < sorts.size(); t++) {
                s.table[h][t] = halls.getOrDefault(h + " " + t, 0);
            }
        }
        return s;
    }

    int feed(int a, int b, int c, int d, int e) {
        if (tape.length() + 20 > 2000) {
            return NONE;
        }
        for (int four : new int[] {a, b, c, d, e}) {
            for (int shift = 24; shift >= 0; shift -= 8) {
                tape.append((char) (four >>> shift & 255));
            }
        }
        return tape.length();
    }

    int back(int n) {
        if (n < 0 || n > tape.length()) {
            return NONE;
        }
        tape.setLength(tape.length() - n);
        return tape.length();
    }

    int read() {
        String text = tape.toString();
        tape.setLength(0);
        List<String> words = new ArrayList<>();
        List<Integer> places = new ArrayList<>();
        Matcher m = TOKEN.matcher(text);
        while (m.find()) {
            words.add(m.group());
            places.add(m.start());
        }
        int[] fault = formFault(words, places, text.length());
        if (fault == null) {
            Model fresh = new Model();
            fault = fresh.tell(words, places);
            if (fault == null) {
                take(fresh);
            }
        }
        place = fault == null ? NONE : fault[1];
        return fault == null ? 0 : fault[0];
    }

    private void take(Model fresh) {
        sorts = fresh.sorts;
        plain = fresh.plain;
        houses = fresh.houses;
        men = fresh.men;
        homes = fresh.homes;
        hands = fresh.hands;
        calls = fresh.calls;
        worths = fresh.worths;
        halls = fresh.halls;
        shops = fresh.shops;
        doors = fresh.doors;
        doorsTold = fresh.doorsTold;
        law = fresh.law;
        start();
    }

    private static char sign(String word) {
        int index = WORDS.indexOf(word);
        char c = word.charAt(0);
        if (index >= 0) {
            return SIGNS.charAt(index);
        }
        if (c >= 'a' && c <= 'z') {
            return word.length() <= 8 ? 'n' : 'x';
        }
        if (c >= '0' && c <= '9') {
            return word.length() <= 4 ? 'i' : 'x';
        }
        return ";:,".indexOf(c) >= 0 ? c : 'x';
    }

    private static boolean goesOn(CharSequence signs) {
        Matcher m = GRAMMAR.matcher(signs);
        return m.matches() || m.hitEnd();
    }

    private static int[] formFault(List<String> words, List<Integer> places, int length) {
        StringBuilder signs = new StringBuilder();
        for (int i = 0; i < words.size(); i++) {
            signs.append(sign(words.get(i)));
            if (!goesOn(signs)) {
                return new int[] {1, places.get(i)};
            }
            boolean room = i < 400;
            for (String limit : ROOMS) {
                long told = signs.chars().filter(c -> c == limit.charAt(0)).count();
                room &= told <= Integer.parseInt(limit.substring(1)) || signs.charAt(i) != limit.charAt(0);
            }
            if (!room) {
                return new int[] {2, places.get(i)};
            }
        }
        return GRAMMAR.matcher(signs).matches() ? null : new int[] {1, length};
    }

    /** The TELLS one by one, each as far as it is right. */
    private int[] tell(List<String> w, List<Integer> p) {
        for (int i = 0; i < w.size();) {
            int end = i;
            while (!w.get(end).equals(";")) {
                end++;
            }
            int[] fault = tellOne(w.subList(i, end), p.subList(i, end));
            if (fault != null) {
                return fault;
            }
            i = end + 1;
        }
        return null;
    }

    private boolean told(String name) {
        return sorts.contains(name) || houses.contains(name) || men.contains(name);
    }

    private int[] tellOne(List<String> w, List<Integer> p) {
        String what = w.get(0);
        if (what.equals("law")) {
            law = WORDS.indexOf(w.get(1)) - 9;
            return null;
        }
        String one = w.get(1);
        if (what.equals("sort") || what.equals("house") || what.equals("man")) {
            if (told(one)) {
                return new int[] {3, p.get(1)};
            }
        } else if (!(what.equals("call") ? men : houses).contains(one)) {
            return new int[] {4, p.get(1)};
        }
        if (what.equals("house")) {
            houses.add(one);
            return null;
        }
        int number = w.size() > 2 && Character.isDigit(w.get(w.size() - 1).charAt(0))
                ? Integer.parseInt(w.get(w.size() - 1)) : NONE;
        if (what.equals("sort")) {
            if (number > 99) {
                return new int[] {5, p.get(2)};
            }
            sorts.add(one);
            plain.add(number);
            return null;
        }
        String two = w.get(2);
        boolean houseDue = what.equals("door") || what.equals("man") || what.equals("call");
        if (!(houseDue ? houses : sorts).contains(two)) {
            return new int[] {4, p.get(2)};
        }
        if (what.equals("door") && one.equals(two)) {
            return new int[] {5, p.get(2)};
        }
        if (what.equals("call")) {
            int man = men.indexOf(one);
            int house = houses.indexOf(two);
            if (homes.get(man) == house) {
                return new int[] {5, p.get(2)};
            }
            calls.add(new int[] {man, house});
            return null;
        }
        if (what.equals("man")) {
            return tellMan(w, p);
        }
        String cell = houses.indexOf(one) + " " + sorts.indexOf(two);
        if (what.equals("shop")) {
            shops.add(cell);
            return null;
        }
        int least = what.equals("door") ? 1 : 0;
        int most = what.equals("hall") ? 9 : 99;
        if (number < least || number > most) {
            return new int[] {5, p.get(3)};
        }
        if (what.equals("door")) {
            doors.put(houses.indexOf(one) + " " + houses.indexOf(two), number);
            doors.put(houses.indexOf(two) + " " + houses.indexOf(one), number);
            doorsTold++;
        } else if (what.equals("worth")) {
            worths.put(cell, number);
        } else {
            halls.merge(cell, number, Integer::sum);
        }
        return null;
    }

    private int[] tellMan(List<String> w, List<Integer> p) {
        int[] hand = new int[sorts.size()];
        for (int i = 4; i < w.size(); i += 3) {
            int sort = sorts.indexOf(w.get(i));
            int many = Integer.parseInt(w.get(i + 1));
            if (sort < 0) {
                return new int[] {4, p.get(i)};
            }
            if (many > 3) {
                return new int[] {5, p.get(i + 1)};
            }
            hand[sort] = many;
        }
        men.add(w.get(1));
        homes.add(houses.indexOf(w.get(2)));
        hands.add(Arrays.copyOf(hand, 5));
        return null;
    }

    int place() {
        return place;
    }

    private boolean isHouse(int h) {
        return h >= 0 && h < houses.size();
    }

    private boolean isSort(int s) {
        return s >= 0 && s < sorts.size();
    }

    private boolean isMan(int m) {
        return m >= 0 && m < men.size();
    }

    private int minutes(int a, int b) {
        return doors.getOrDefault(a + " " + b, 0);
    }

    private int value(int h, int s) {
        return worths.getOrDefault(h + " " + s, plain.get(s));
    }

    int door(int a, int b) {
        return !isHouse(a) || !isHouse(b) || a == b ? NONE : minutes(a, b);
    }

    int worth(int h, int s) {
        if (!isSort(s) || h != NONE && !isHouse(h)) {
            return NONE;
        }
        return h == NONE ? plain.get(s) : value(h, s);
    }

    int table(int h, int s) {
        return isHouse(h) && isSort(s) ? now.table[h][s] : NONE;
    }

    private static int sum(int[] row) {
        return Arrays.stream(row).sum();
    }

    int man(int m, int what) {
        if (!isMan(m) || what < 0 || what > 4) {
            return NONE;
        }
        return new int[] {now.at[m], homes.get(m), sum(now.hand[m]), now.minutes[m], now.loss[m]}[what];
    }

    int has(int m, int s) {
        return isMan(m) && isSort(s) ? now.hand[m][s] : NONE;
    }

    /** Whether one with this hand may leave a SORT at a HOUSE. */
    private boolean lawful(int[] hand, int h, int s) {
        if (hand[s] == 0) {
            return false;
        }
        for (int other = 0; other < sorts.size() && law != 0; other++) {
            if (hand[other] > 0 && other != s) {
                int more = law == 1 ? value(h, other) - value(h, s) : value(h, s) - value(h, other);
                if (more > 0 || more == 0 && other < s) {
                    return false;
                }
            }
        }
        return true;
    }

    /** What is left by LAW, by any as by cheapest; NONE of nothing. */
    private int byLaw(int[] hand, int h) {
        int told = law;
        law = law == 0 ? 2 : law;
        int found = NONE;
        for (int s = 0; s < sorts.size(); s++) {
            if (lawful(hand, h, s)) {
                found = s;
            }
        }
        law = told;
        return found;
    }

    int may(int m, int h, int s) {
        if (!isMan(m) || !isHouse(h) || !isSort(s) || homes.get(m) == h) {
            return NONE;
        }
        return lawful(now.hand[m], h, s) ? 1 : 0;
    }

    private void remember() {
        past.addLast(now.copy());
        if (past.size() > 60) {
            past.removeFirst();
        }
    }

    private void enter(State s, int m, int h, int sort) {
        s.minutes[m] += minutes(s.at[m], h);
        s.at[m] = h;
        if (sort != NONE) {
            s.hand[m][sort]--;
            s.table[h][sort]++;
            s.loss[m] += value(h, sort);
        }
    }

    int go(int m, int h, int s) {
        if (!isMan(m) || !isHouse(h) || s != NONE && !isSort(s)) {
            return NONE;
        }
        if (minutes(now.at[m], h) == 0) {
            return 1;
        }
        if (homes.get(m) == h) {
            if (s != NONE) {
                return 3;
            }
        } else if (sum(now.hand[m]) == 0) {
            return 2;
        } else if (s == NONE || !lawful(now.hand[m], h, s)) {
            return 3;
        }
        remember();
        enter(now, m, h, s);
        return 0;
    }

    int buy(int m, int s) {
        if (!isMan(m) || !isSort(s)) {
            return NONE;
        }
        if (!shops.contains(now.at[m] + " " + s)) {
            return 1;
        }
        if (now.hand[m][s] == 3) {
            return 2;
        }
        remember();
        now.hand[m][s]++;
        now.minutes[m]++;
        return 0;
    }

    boolean undo() {
        if (past.isEmpty()) {
            return false;
        }
        now = past.removeLast();
        return true;
    }

    /** A place with a hand, and the steps from there in the order of the document. */
    private final class Spot {
        final int house;
        final int[] hand;
        final List<Edge> edges = new ArrayList<>();
        long rest = Long.MAX_VALUE;

        Spot(int house, int[] hand) {
            this.house = house;
            this.hand = hand;
        }

        String key() {
            return house + Arrays.toString(hand);
        }
    }

    private record Edge(int code, Spot to, int doors, int minutes, int loss) {
        long cost(int by) {
            int first = by == 0 ? doors : by == 1 ? minutes : loss;
            return first * 1_000_000_000L + (by == 0 ? minutes : doors);
        }
    }

    private static int[] plus(int[] hand, int sort, int more) {
        int[] copy = hand.clone();
        copy[sort] += more;
        return copy;
    }

    /** All spots to which a MAN can come, the first one where he is. */
    private List<Spot> spots(int m) {
        Map<String, Spot> found = new LinkedHashMap<>();
        List<Spot> row = new ArrayList<>();
        Spot start = new Spot(now.at[m], now.hand[m].clone());
        found.put(start.key(), start);
        row.add(start);
        for (int i = 0; i < row.size(); i++) {
            Spot from = row.get(i);
            for (int h = 0; h < houses.size(); h++) {
                int far = minutes(from.house, h);
                if (far > 0 && h == homes.get(m)) {
                    from.edges.add(new Edge(10 * h + 9, spot(found, row, h, from.hand), 1, far, 0));
                }
                for (int s = 0; s < sorts.size() && far > 0 && h != homes.get(m); s++) {
                    if (lawful(from.hand, h, s)) {
                        Spot to = spot(found, row, h, plus(from.hand, s, -1));
                        from.edges.add(new Edge(10 * h + s, to, 1, far, value(h, s)));
                    }
                }
            }
            for (int s = 0; s < sorts.size(); s++) {
                if (shops.contains(from.house + " " + s) && from.hand[s] < 3) {
                    from.edges.add(new Edge(100 + s, spot(found, row, from.house, plus(from.hand, s, 1)), 0, 1, 0));
                }
            }
        }
        return row;
    }

    private Spot spot(Map<String, Spot> found, List<Spot> row, int house, int[] hand) {
        Spot fresh = new Spot(house, hand);
        Spot there = found.putIfAbsent(fresh.key(), fresh);
        if (there == null) {
            row.add(fresh);
        }
        return there == null ? fresh : there;
    }

    private interface Goal {
        boolean at(int house, int[] hand);
    }

    /** From each spot the least cost till the goal, round and round till nothing becomes less. */
    private void measure(List<Spot> spots, Goal goal, int by) {
        for (Spot s : spots) {
            s.rest = goal.at(s.house, s.hand) ? 0 : Long.MAX_VALUE;
        }
        for (boolean changed = true; changed;) {
            changed = false;
            for (int i = spots.size() - 1; i >= 0; i--) {
                Spot s = spots.get(i);
                for (Edge e : s.edges) {
                    if (e.to.rest != Long.MAX_VALUE && e.to.rest + e.cost(by) < s.rest) {
                        s.rest = e.to.rest + e.cost(by);
                        changed = true;
                    }
                }
            }
        }
    }

    /** THE WAY; null: there is none. */
    private List<Edge> theWay(int m, Goal goal, int by) {
        List<Spot> spots = spots(m);
        measure(spots, goal, by);
        Spot at = spots.get(0);
        if (at.rest == Long.MAX_VALUE) {
            return null;
        }
        List<Edge> way = new ArrayList<>();
        while (!goal.at(at.house, at.hand)) {
            Edge first = null;
            for (Edge e : at.edges) {
                if (first == null && e.to.rest != Long.MAX_VALUE && e.cost(by) + e.to.rest == at.rest) {
                    first = e;
                }
            }
            way.add(first);
            at = first.to;
        }
        return way;
    }

    private static int total(List<Edge> way, int what) {
        int sum = 0;
        for (Edge e : way) {
            sum += what == 0 ? e.doors : what == 1 ? e.minutes : what == 2 ? e.loss : 1;
        }
        return sum;
    }

    int way(int m, int h, int s, int by, int what) {
        if (!isMan(m) || !isHouse(h) || s != NONE && !isSort(s) || by < 0 || by > 2 || what < 0 || what > 3) {
            return NONE;
        }
        List<Edge> way = theWay(m, (house, hand) -> house == h && (s == NONE || hand[s] > 0), by);
        return way == null ? NEVER : total(way, what);
    }

    int step(int m, int h, int s, int by, int i) {
        if (way(m, h, s, by, 0) < 0 || i < 0) {
            return NONE;
        }
        List<Edge> way = theWay(m, (house, hand) -> house == h && (s == NONE || hand[s] > 0), by);
        return i < way.size() ? way.get(i).code : NONE;
    }

    int rid(int m, int s, int by, int what) {
        if (!isMan(m) || !isSort(s) || by < 0 || by > 2 || what < 0 || what > 2) {
            return NONE;
        }
        List<Edge> way = theWay(m, (house, hand) -> hand[s] == 0, by);
        return way == null ? NEVER : total(way, what);
    }

    int get(int m, int s) {
        if (!isMan(m) || !isSort(s)) {
            return NONE;
        }
        List<Edge> way = theWay(m, (house, hand) -> shops.contains(house + " " + s) && hand[s] < 3, 0);
        return way == null ? NEVER : total(way, 0);
    }

    int inReach(int m) {
        if (!isMan(m)) {
            return NONE;
        }
        int bits = 0;
        for (Spot s : spots(m)) {
            bits |= 1 << s.house;
        }
        return bits;
    }

    int most(int m, int h) {
        if (!isMan(m) || !isHouse(h)) {
            return NONE;
        }
        int most = NEVER;
        for (Spot s : spots(m)) {
            most = s.house == h ? Math.max(most, sum(s.hand)) : most;
        }
        return most;
    }

    int meet(int m, int other, int what) {
        if (!isMan(m) || !isMan(other) || m == other || what < 0 || what > 1) {
            return NONE;
        }
        int best = NEVER;
        int least = Integer.MAX_VALUE;
        for (int h = 0; h < houses.size(); h++) {
            int a = way(m, h, NONE, 1, 1);
            int b = way(other, h, NONE, 1, 1);
            if (a >= 0 && b >= 0 && a + b < least) {
                least = a + b;
                best = h;
            }
        }
        return best == NEVER || what == 0 ? best : least;
    }

    int riches(int h) {
        if (h != NONE && !isHouse(h)) {
            return NONE;
        }
        if (h == NONE) {
            int best = NEVER;
            for (int i = houses.size() - 1; i >= 0; i--) {
                best = best == NEVER || riches(i) <= riches(best) ? i : best;
            }
            return best;
        }
        int sum = 0;
        for (int s = 0; s < sorts.size(); s++) {
            sum += now.table[h][s] * value(h, s);
        }
        return sum;
    }

    int round(int m, int set) {
        if (!isMan(m) || set < 0 || set >> houses.size() != 0) {
            return NONE;
        }
        Map<String, Integer> best = new HashMap<>();
        walk(m, now.at[m], 1 << now.at[m], sum(now.hand[m]), 0, best);
        int least = Integer.MAX_VALUE;
        for (Map.Entry<String, Integer> e : best.entrySet()) {
            String[] parts = e.getKey().split(" ");
            if (Integer.parseInt(parts[0]) == homes.get(m) && (Integer.parseInt(parts[1]) & set) == set) {
                least = Math.min(least, e.getValue());
            }
        }
        return least == Integer.MAX_VALUE ? NEVER : least;
    }

    private void walk(int m, int at, int been, int things, int minutes, Map<String, Integer> best) {
        String key = at + " " + been + " " + things;
        if (best.getOrDefault(key, Integer.MAX_VALUE) <= minutes) {
            return;
        }
        best.put(key, minutes);
        for (int h = 0; h < houses.size(); h++) {
            int cost = homes.get(m) == h ? 0 : 1;
            if (minutes(at, h) > 0 && things >= cost) {
                walk(m, h, been | 1 << h, things - cost, minutes + minutes(at, h), best);
            }
        }
    }

    private int[] stock(int sort) {
        int[] stock = new int[houses.size()];
        for (int h = 0; h < houses.size(); h++) {
            stock[h] = halls.getOrDefault(h + " " + sort, 0);
        }
        for (int m = 0; m < men.size(); m++) {
            stock[homes.get(m)] += hands.get(m)[sort];
        }
        return stock;
    }

    /** The most by trying of each CALL both. */
    private int carry(List<int[]> row, int i, int[] stock, int house) {
        if (i == row.size()) {
            return stock[house];
        }
        int best = carry(row, i + 1, stock, house);
        int home = homes.get(row.get(i)[0]);
        if (stock[home] > 0) {
            stock[home]--;
            stock[row.get(i)[1]]++;
            best = Math.max(best, carry(row, i + 1, stock, house));
            stock[home]++;
            stock[row.get(i)[1]]--;
        }
        return best;
    }

    int carried(int s, int h) {
        return isSort(s) && isHouse(h) ? carry(calls, 0, stock(s), h) : NONE;
    }

    int helps(int s, int h, int what) {
        if (!isSort(s) || !isHouse(h) || what < 0 || what > 3) {
            return NONE;
        }
        int[] best = {carried(s, h), NEVER, NEVER, NEVER};
        for (int place = 0; place <= calls.size(); place++) {
            for (int m = 0; m < men.size(); m++) {
                for (int to = 0; to < houses.size(); to++) {
                    List<int[]> more = new ArrayList<>(calls);
                    more.add(place, new int[] {m, to});
                    int sum = to == homes.get(m) ? NONE : carry(more, 0, stock(s), h);
                    if (sum > best[0]) {
                        best = new int[] {sum, place, m, to};
                    }
                }
            }
        }
        return best[1] == NEVER ? NEVER : best[what];
    }

    int turned(int s, int h) {
        if (!isSort(s) || !isHouse(h)) {
            return NONE;
        }
        int best = carried(s, h);
        int found = NEVER;
        for (int i = 0; i < calls.size(); i++) {
            for (int j = i + 1; j < calls.size(); j++) {
                List<int[]> row = new ArrayList<>(calls);
                row.set(i, calls.get(j));
                row.set(j, calls.get(i));
                int sum = carry(row, 0, stock(s), h);
                if (sum > best) {
                    best = sum;
                    found = 100 * i + j;
                }
            }
        }
        return found;
    }

    /** By long numbers, cut to 32 bits each time. */
    static int lot(int n, int seed, int which) {
        long cut = 0xFFFFFFFFL;
        long h = seed & cut;
        for (int it : new int[] {23, which}) {
            h = ((h ^ it & cut) * 1103515245L + 12345L) & cut;
            h ^= h / 32768;
        }
        return (int) (h / 2 % n);
    }

    int year(int seed, int n, int what) {
        if (n < 1 || n > 400 || what < 0 || what > 3) {
            return NONE;
        }
        State s = now.copy();
        Arrays.fill(s.loss, 0);
        int gone = 0;
        for (int day = 0; day < n; day++) {
            for (int m = 0; m < men.size(); m++) {
                List<Integer> behind = new ArrayList<>();
                for (int h = 0; h < houses.size(); h++) {
                    if (minutes(s.at[m], h) > 0) {
                        behind.add(h);
                    }
                }
                int lot = lot(behind.size() + 1, seed, 6 * day + m);
                if (lot < behind.size() && (homes.get(m).equals(behind.get(lot)) || sum(s.hand[m]) > 0)) {
                    int h = behind.get(lot);
                    enter(s, m, h, homes.get(m) == h ? NONE : byLaw(s.hand[m], h));
                    gone++;
                }
            }
        }
        int home = 0;
        for (int m = 0; m < men.size(); m++) {
            home += s.at[m] == homes.get(m) ? 1 : 0;
        }
        return new int[] {gone, sum(s.loss), carriedBy(s), home}[what];
    }

    private static int carriedBy(State s) {
        int sum = 0;
        for (int[] hand : s.hand) {
            sum += sum(hand);
        }
        return sum;
    }

    int rest(int what) {
        if (what < 0 || what > 2) {
            return NONE;
        }
        State s = first();
        ArrayDeque<int[]> owed = new ArrayDeque<>(calls);
        int paid = 0;
        int dropped = 0;
        while (!owed.isEmpty()) {
            int[] call = owed.removeFirst();
            int left = byLaw(s.hand[call[0]], call[1]);
            if (left == NONE) {
                dropped++;
                continue;
            }
            s.hand[call[0]][left]--;
            paid++;
            int host = homes.indexOf(call[1]);
            if (host >= 0) {
                owed.addLast(new int[] {host, homes.get(call[0])});
            }
        }
        return new int[] {paid, dropped, carriedBy(s)}[what];
    }

    int see(int h, int s, int n) {
        if (!isHouse(h) || !isSort(s) || n < 0 || n > 9 || seen.size() == 30) {
            return NONE;
        }
        seen.add(new int[] {h, s, n});
        return seen.size() - 1;
    }

    int forget() {
        int were = seen.size();
        seen.clear();
        return were;
    }

    /** How many VISITS fit, and how many of these have a MAN at a HOUSE: tried all. */
    private long tryAll(int m, int[] houseOf, Map<String, Integer> left, Map<String, Integer> known, long[][] there) {
        if (m == men.size()) {
            for (Map.Entry<String, Integer> e : known.entrySet()) {
                if (!e.getValue().equals(left.getOrDefault(e.getKey(), 0))) {
                    return 0;
                }
            }
            for (int i = 0; i < m; i++) {
                if (houseOf[i] != NONE) {
                    there[i][houseOf[i]]++;
                }
            }
            return 1;
        }
        houseOf[m] = NONE;
        long sum = tryAll(m + 1, houseOf, left, known, there);
        for (int h = 0; h < houses.size(); h++) {
            for (int s = 0; s < sorts.size(); s++) {
                if (h != homes.get(m) && lawful(hands.get(m), h, s)) {
                    houseOf[m] = h;
                    left.merge(h + " " + s, 1, Integer::sum);
                    sum += tryAll(m + 1, houseOf, left, known, there);
                    left.merge(h + " " + s, -1, Integer::sum);
                }
            }
        }
        return sum;
    }

    private long all(int k, long[][] there) {
        Map<String, Integer> known = new HashMap<>();
        for (int[] one : seen.subList(0, k)) {
            known.put(one[0] + " " + one[1], one[2]);
        }
        return tryAll(0, new int[men.size()], new HashMap<>(), known, there);
    }

    long fits(int k) {
        return k < 0 || k > seen.size() ? NONE : all(k, new long[men.size()][houses.size()]);
    }

    int visitors(int h, int k, boolean surely) {
        if (!isHouse(h) || k < 0 || k > seen.size()) {
            return NONE;
        }
        long[][] there = new long[men.size()][houses.size()];
        long all = all(k, there);
        int bits = 0;
        for (int m = 0; m < men.size(); m++) {
            boolean is = surely ? there[m][h] == all : there[m][h] > 0;
            bits |= is && all > 0 ? 1 << m : 0;
        }
        return bits;
    }

    boolean hold(int slot) {
        if (slot < 0 || slot > 2) {
            return false;
        }
        slots[slot] = now.copy();
        return true;
    }

    boolean restore(int slot) {
        if (slot < 0 || slot > 2 || slots[slot] == null) {
            return false;
        }
        now = slots[slot].copy();
        past.clear();
        return true;
    }

    int count(int what) {
        int held = 0;
        for (State s : slots) {
            held += s != null ? 1 : 0;
        }
        int lying = 0;
        for (int[] row : now.table) {
            lying += sum(row);
        }
        int[] all = {sorts.size(), houses.size(), doorsTold, men.size(), calls.size(), law, tape.length(), past.size(),
            seen.size(), held, lying, carriedBy(now)};
        return what >= 0 && what < all.length ? all[what] : NONE;
    }

    /** For the tests: the numbers of what there is, to ask about. */
    int[] sizes() {
        return new int[] {sorts.size(), houses.size(), men.size(), calls.size(), seen.size()};
    }

    byte[] onTape() {
        return tape.toString().getBytes(StandardCharsets.ISO_8859_1);
    }
}
