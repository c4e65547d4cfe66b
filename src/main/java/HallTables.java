import java.util.Arrays;

/** A town in which something must be left at each house; ../shared/DOC.md tells what each method answers. */
public final class HallTables {
    public static final int NONE = -1;

    private static final int NEVER = -2;
    private static final int MAX_SORTS = 5;
    private static final int MAX_HOUSES = 10;
    private static final int MAX_MEN = 6;
    private static final int MAX_CALLS = 20;
    private static final int MOST_OF_ONE = 3;
    private static final int SLOTS = 3;

    private final Teller teller = new Teller();
    private final Text text = teller.text;
    private final Stand now = new Stand();
    private final Stand[] slots = new Stand[SLOTS];
    private final Track track = new Track();
    private final Ways ways = new Ways();
    private final Rounds rounds = new Rounds();
    private final Day day = new Day();
    private final Chance chance = new Chance();
    private final Visits visits = new Visits();
    private Town town = new Town();

    public HallTables() {
        for (int slot = 0; slot < SLOTS; slot++) {
            slots[slot] = new Stand();
        }
    }

    public int feed(int a, int b, int c, int d, int e) {
        if (!text.hasRoomFor(20)) {
            return NONE;
        }
        text.append(a);
        text.append(b);
        text.append(c);
        text.append(d);
        text.append(e);
        return text.length;
    }

    public int back(int n) {
        if (n < 0 || n > text.length) {
            return NONE;
        }
        text.length -= n;
        return text.length;
    }

    public int read() {
        text.check();
        if (text.fault == Text.NO_FAULT) {
            teller.tellAll();
        }
        text.length = 0;
        if (text.fault == Text.NO_FAULT) {
            moveIn();
        }
        return text.fault;
    }

    /** The town just told comes in place of the one ahead, with nothing of what happened there. */
    private void moveIn() {
        town = teller.exchange(town);
        now.begin(town);
        track.clear();
        visits.clear();
        ways.forgetLast();
        for (int slot = 0; slot < SLOTS; slot++) {
            slots[slot].holds = false;
        }
    }

    public int place() {
        return text.faultPlace;
    }

    public int door(int house, int other) {
        if (!town.isHouse(house) || !town.isHouse(other) || house == other) {
            return NONE;
        }
        return town.minutesTo(house, other);
    }

    public int worth(int house, int sort) {
        if (!town.isSort(sort) || house != NONE && !town.isHouse(house)) {
            return NONE;
        }
        return house == NONE ? town.plainWorth[sort] : town.worthAt(house, sort);
    }

    public int table(int house, int sort) {
        if (!town.isHouse(house) || !town.isSort(sort)) {
            return NONE;
        }
        return now.table[Town.cell(house, sort)];
    }

    public int man(int man, int what) {
        if (!town.isMan(man)) {
            return NONE;
        }
        switch (what) {
            case 0: return now.at[man];
            case 1: return town.home[man];
            case 2: return Town.things(now.hand[man]);
            case 3: return now.minutes[man];
            case 4: return now.loss[man];
            default: return NONE;
        }
    }

    public int has(int man, int sort) {
        if (!town.isMan(man) || !town.isSort(sort)) {
            return NONE;
        }
        return Town.inHand(now.hand[man], sort);
    }

    public int may(int man, int house, int sort) {
        if (!town.isMan(man) || !town.isHouse(house) || !town.isSort(sort) || house == town.home[man]) {
            return NONE;
        }
        return town.mayLeave(now.hand[man], house, sort) ? 1 : 0;
    }

    public int go(int man, int house, int sort) {
        if (!town.isMan(man) || !town.isHouse(house) || sort != NONE && !town.isSort(sort)) {
            return NONE;
        }
        int from = now.at[man];
        int minutes = town.minutesTo(from, house);
        boolean home = house == town.home[man];
        if (minutes == 0) {
            return 1;
        }
        if (!home && now.hand[man] == 0) {
            return 2;
        }
        if (home ? sort != NONE : !town.mayLeave(now.hand[man], house, sort)) {
            return 3;
        }
        track.note(man, from, sort, minutes);
        now.enter(town, man, house, sort);
        return 0;
    }

    public int buy(int man, int sort) {
        if (!town.isMan(man) || !town.isSort(sort)) {
            return NONE;
        }
        if (!town.isSold(now.at[man], sort)) {
            return 1;
        }
        if (Town.inHand(now.hand[man], sort) >= MOST_OF_ONE) {
            return 2;
        }
        track.note(man, NONE, sort, 1);
        now.hand[man] += Town.oneOf(sort);
        now.minutes[man]++;
        return 0;
    }

    public boolean undo() {
        int step = track.takeLast();
        if (step == NONE) {
            return false;
        }
        now.takeBack(town, track, step);
        return true;
    }

    public int way(int man, int house, int sort, int by, int what) {
        if (!isWay(man, house, sort, by) || what < 0 || what >= Ways.SUMS) {
            return NONE;
        }
        ways.startWith(town, now, man);
        if (!ways.find(by, Ways.TO_HOUSE, house, sort)) {
            return NEVER;
        }
        ways.follow(NONE);
        return ways.sums[what];
    }

    private boolean isWay(int man, int house, int sort, int by) {
        return town.isMan(man) && town.isHouse(house) && (sort == NONE || town.isSort(sort)) && Ways.isBy(by);
    }

    public int step(int man, int house, int sort, int by, int i) {
        if (!isWay(man, house, sort, by) || i < 0) {
            return NONE;
        }
        ways.startWith(town, now, man);
        return ways.find(by, Ways.TO_HOUSE, house, sort) ? ways.follow(i) : NONE;
    }

    public int rid(int man, int sort, int by, int what) {
        if (!town.isMan(man) || !town.isSort(sort) || !Ways.isBy(by) || what < 0 || what > Ways.LOSS) {
            return NONE;
        }
        ways.startWith(town, now, man);
        if (!ways.find(by, Ways.RID_OF, NONE, sort)) {
            return NEVER;
        }
        ways.follow(NONE);
        return ways.sums[what];
    }

    public int get(int man, int sort) {
        if (!town.isMan(man) || !town.isSort(sort)) {
            return NONE;
        }
        ways.startWith(town, now, man);
        return ways.find(Ways.DOORS, Ways.TO_SHOP, NONE, sort) ? ways.least() : NEVER;
    }

    public int inReach(int man) {
        if (!town.isMan(man)) {
            return NONE;
        }
        ways.startWith(town, now, man);
        ways.find(Ways.MINUTES, Ways.TO_ALL, NONE, NONE);
        return ways.housesFound();
    }

    public int most(int man, int house) {
        if (!town.isMan(man) || !town.isHouse(house)) {
            return NONE;
        }
        ways.startWith(town, now, man);
        ways.find(Ways.MINUTES, Ways.TO_ALL, NONE, NONE);
        return ways.mostAt(house);
    }

    public int meet(int man, int other, int what) {
        if (!town.isMan(man) || !town.isMan(other) || man == other || what < 0 || what > 1) {
            return NONE;
        }
        int[] sum = ways.together;
        Arrays.fill(sum, 0);
        ways.startWith(town, now, man);
        ways.find(Ways.MINUTES, Ways.TO_ALL, NONE, NONE);
        ways.addMinutes();
        ways.startWith(town, now, other);
        ways.find(Ways.MINUTES, Ways.TO_ALL, NONE, NONE);
        ways.addMinutes();
        int best = NEVER;
        for (int house = 0; house < town.houses; house++) {
            if (sum[house] >= 0 && (best == NEVER || sum[house] < sum[best])) {
                best = house;
            }
        }
        return best == NEVER || what == 0 ? best : sum[best];
    }

    public int riches(int house) {
        if (house != NONE) {
            return town.isHouse(house) ? richesAt(house) : NONE;
        }
        int poorest = NEVER;
        int least = 0;
        for (int h = 0; h < town.houses; h++) {
            int riches = richesAt(h);
            if (poorest == NEVER || riches < least) {
                poorest = h;
                least = riches;
            }
        }
        return poorest;
    }

    private int richesAt(int house) {
        int sum = 0;
        for (int sort = 0; sort < town.sorts; sort++) {
            sum += now.table[Town.cell(house, sort)] * town.worthAt(house, sort);
        }
        return sum;
    }

    public int round(int man, int houses) {
        if (!town.isMan(man) || houses < 0 || houses >= 1 << town.houses) {
            return NONE;
        }
        return rounds.fewest(town, now, man, houses);
    }

    public int carried(int sort, int house) {
        if (!town.isSort(sort) || !town.isHouse(house)) {
            return NONE;
        }
        day.prepare(town, sort, house);
        return day.flow();
    }

    public int helps(int sort, int house, int what) {
        if (!town.isSort(sort) || !town.isHouse(house) || what < 0 || what > 3) {
            return NONE;
        }
        day.prepare(town, sort, house);
        return day.help(town, what);
    }

    public int turned(int sort, int house) {
        if (!town.isSort(sort) || !town.isHouse(house)) {
            return NONE;
        }
        day.prepare(town, sort, house);
        return day.bestTurn();
    }

    public int year(int seed, int n, int what) {
        if (n < 1 || n > 400 || what < 0 || what > 3) {
            return NONE;
        }
        chance.live(town, now, seed, n);
        switch (what) {
            case 0: return chance.steps;
            case 1: return chance.loss;
            case 2: return chance.stand.thingsCarried();
            default: return chance.stand.menAtHome(town);
        }
    }

    public int rest(int what) {
        if (what < 0 || what > 2) {
            return NONE;
        }
        chance.payAll(town);
        switch (what) {
            case 0: return chance.steps;
            case 1: return chance.dropped;
            default: return chance.stand.thingsCarried();
        }
    }

    public int see(int house, int sort, int n) {
        if (!town.isHouse(house) || !town.isSort(sort) || n < 0 || n > 9) {
            return NONE;
        }
        return visits.add(house, sort, n);
    }

    public int forget() {
        int were = visits.seen;
        visits.clear();
        return were;
    }

    public long fits(int k) {
        if (!visits.isKnown(k)) {
            return NONE;
        }
        return visits.know(town, k) ? visits.ways(town, NONE, NONE) : 0;
    }

    public int visitors(int house, int k, boolean surely) {
        if (!town.isHouse(house) || !visits.isKnown(k)) {
            return NONE;
        }
        long all = visits.know(town, k) ? visits.ways(town, NONE, NONE) : 0;
        int men = 0;
        for (int man = 0; man < town.men && all > 0; man++) {
            long there = visits.ways(town, man, house);
            if (surely ? there == all : there > 0) {
                men |= 1 << man;
            }
        }
        return men;
    }

    public boolean hold(int slot) {
        if (slot < 0 || slot >= SLOTS) {
            return false;
        }
        slots[slot].copyOf(now);
        slots[slot].holds = true;
        return true;
    }

    public boolean restore(int slot) {
        if (slot < 0 || slot >= SLOTS || !slots[slot].holds) {
            return false;
        }
        now.copyOf(slots[slot]);
        track.clear();
        return true;
    }

    public int count(int what) {
        switch (what) {
            case 0: return town.sorts;
            case 1: return town.houses;
            case 2: return town.doors;
            case 3: return town.men;
            case 4: return town.calls;
            case 5: return town.law;
            case 6: return text.length;
            case 7: return track.count;
            case 8: return visits.seen;
            case 9: return slotsHeld();
            case 10: return now.thingsOnTables();
            case 11: return now.thingsCarried();
            default: return NONE;
        }
    }

    private int slotsHeld() {
        int held = 0;
        for (int slot = 0; slot < SLOTS; slot++) {
            held += slots[slot].holds ? 1 : 0;
        }
        return held;
    }

    /** The tape, its TOKENS, and the first FAULT of the latest text. */
    private static final class Text {
        static final int BYTES = 2000;
        static final int TOKENS = 400;
        static final int NO_FAULT = 0;
        static final int SYNTAX = 1;
        static final int ROOM = 2;
        static final int TWICE = 3;
        static final int NAME_UNKNOWN = 4;
        static final int WRONG = 5;

        static final int SORT = 0;
        static final int HOUSE = 1;
        static final int DOOR = 2;
        static final int WORTH = 3;
        static final int SHOP = 4;
        static final int HALL = 5;
        static final int MAN = 6;
        static final int LAW = 7;
        static final int CALL = 8;
        static final int ANY = 9;
        static final int CHEAPEST = 11;
        static final int NAME = 12;
        static final int INT = 13;
        static final int SEMICOLON = 14;
        static final int COLON = 15;
        static final int COMMA = 16;
        static final int NO_TOKEN = 17;

        private static final int BETWEEN = -1;
        private static final int OVER = 100;
        private static final int STUCK = 101;
        private static final int FIRST_ITEM = 3;
        /** How many can be told of each kind of TELL; no more than BYTES ever stand in a text. */
        private static final int[] MOST_TOLD = {
            MAX_SORTS, MAX_HOUSES, 20, BYTES, BYTES, BYTES, MAX_MEN, BYTES, MAX_CALLS};

        int length;
        int tokens;
        int fault;
        int faultPlace = NONE;
        private int end;
        private long value;
        private final byte[] bytes = new byte[BYTES];
        private final int[] kinds = new int[TOKENS];
        private final long[] values = new long[TOKENS];
        private final int[] places = new int[TOKENS];
        private final int[] told = new int[ANY];
        private final long[] words = {
            code("sort"), code("house"), code("door"), code("worth"), code("shop"), code("hall"),
            code("man"), code("law"), code("call"), code("any"), code("dearest"), code("cheapest")};

        boolean hasRoomFor(int more) {
            return length + more <= BYTES;
        }

        void append(int four) {
            for (int shift = 24; shift >= 0 && length < BYTES; shift -= 8) {
                bytes[length] = (byte) (four >> shift);
                length++;
            }
        }

        int kindOf(int token) {
            return token >= 0 && token < tokens ? kinds[token] : NO_TOKEN;
        }

        long valueOf(int token) {
            return token >= 0 && token < tokens ? values[token] : 0;
        }

        int placeOf(int token) {
            return token >= 0 && token < tokens ? places[token] : length;
        }

        void note(int newFault, int newPlace) {
            fault = newFault;
            faultPlace = newPlace;
        }

        /** Parts the tape into TOKENS, up to the first FAULT of SYNTAX or ROOM. */
        void check() {
            note(NO_FAULT, NONE);
            tokens = 0;
            Arrays.fill(told, 0);
            int tell = BETWEEN;
            int part = 0;
            int at = pastBlanks(0);
            for (int i = 0; i <= BYTES && at < length; i++) {
                int kind = lex(at);
                int next = tell == BETWEEN ? begin(kind) : follow(tell, part, kind);
                if (next == STUCK) {
                    note(SYNTAX, at);
                    return;
                }
                if (tokens == TOKENS || tell == BETWEEN && told[kind] > MOST_TOLD[kind]) {
                    note(ROOM, at);
                    return;
                }
                keep(kind, at);
                if (tell == BETWEEN) {
                    tell = kind;
                } else if (next == OVER) {
                    tell = BETWEEN;
                }
                part = next;
                at = pastBlanks(end);
            }
            if (tell != BETWEEN) {
                note(SYNTAX, length);
            }
        }

        private void keep(int kind, int at) {
            kinds[tokens] = kind;
            values[tokens] = value;
            places[tokens] = at;
            tokens++;
        }

        private int begin(int kind) {
            if (kind < SORT || kind > CALL) {
                return STUCK;
            }
            told[kind]++;
            return 0;
        }

        /** The part of a TELL that is due behind this TOKEN. */
        private static int follow(int tell, int part, int kind) {
            String shape = shape(tell);
            char due = part >= 0 && part < shape.length() ? shape.charAt(part) : ' ';
            switch (due) {
                case 'n': return kind == NAME ? part + 1 : STUCK;
                case 'i': return kind == INT ? part + 1 : STUCK;
                case 'l': return kind >= ANY && kind <= CHEAPEST ? part + 1 : STUCK;
                case ';': return kind == SEMICOLON ? OVER : STUCK;
                case ':': return kind == SEMICOLON ? OVER : kind == COLON ? FIRST_ITEM : STUCK;
                case ',': return kind == SEMICOLON ? OVER : kind == COMMA ? FIRST_ITEM : STUCK;
                default: return STUCK;
            }
        }

        /** What stands behind the first word: n NAME, i INT, l a kind of LAW, : and , where a TELL may end too. */
        private static String shape(int tell) {
            switch (tell) {
                case SORT: return "ni;";
                case HOUSE: return "n;";
                case DOOR: case WORTH: case HALL: return "nni;";
                case SHOP: case CALL: return "nn;";
                case MAN: return "nn:ni,";
                case LAW: return "l;";
                default: return "";
            }
        }

        private int pastBlanks(int from) {
            for (int at = from; at < length; at++) {
                int c = byteAt(at);
                if (c != 9 && c != 10 && c != 13 && c != 32) {
                    return at;
                }
            }
            return length;
        }

        private int byteAt(int at) {
            return at >= 0 && at < length && at < BYTES ? bytes[at] & 255 : NONE;
        }

        /** The kind of the TOKEN at a byte; its end and its value are kept. */
        private int lex(int from) {
            int c = byteAt(from);
            if (isLetter(c)) {
                return lexName(from);
            }
            if (isDigit(c)) {
                return lexInt(from);
            }
            end = from + 1;
            value = 0;
            switch (c) {
                case ';': return SEMICOLON;
                case ':': return COLON;
                case ',': return COMMA;
                default: return NO_TOKEN;
            }
        }

        private int lexName(int from) {
            value = 0;
            end = from;
            for (int at = from; at < length && isLetter(byteAt(at)); at++) {
                value = codeWith(value, byteAt(at));
                end = at + 1;
            }
            if (end - from > 8) {
                return NO_TOKEN;
            }
            for (int word = 0; word < words.length; word++) {
                if (words[word] == value) {
                    return word;
                }
            }
            return NAME;
        }

        private int lexInt(int from) {
            value = 0;
            end = from;
            for (int at = from; at < length && isDigit(byteAt(at)); at++) {
                value = value * 10 + (byteAt(at) - '0');
                end = at + 1;
            }
            return end - from > 4 ? NO_TOKEN : INT;
        }

        private static boolean isLetter(int c) {
            return c >= 'a' && c <= 'z';
        }

        private static boolean isDigit(int c) {
            return c >= '0' && c <= '9';
        }

        /** A word of 8 letters at most as one number: no two words have the same. */
        private static long code(String word) {
            long sum = 0;
            for (int i = 0; i < word.length(); i++) {
                sum = codeWith(sum, word.charAt(i));
            }
            return sum;
        }

        private static long codeWith(long ahead, int letter) {
            return ahead * 27 + (letter - 'a' + 1);
        }
    }

    /** Tells a town from TOKENS that are in order, up to the first FAULT of TWICE, NAME or WRONG. */
    private static final class Teller {
        final Text text = new Text();
        private Town town = new Town();
        private int at;

        /** The town that is told; the other one is made anew by the next text. */
        Town exchange(Town old) {
            Town told = town;
            town = old;
            return told;
        }

        void tellAll() {
            town.clear();
            at = 0;
            for (int i = 0; i < Text.TOKENS && at < text.tokens && text.fault == Text.NO_FAULT; i++) {
                int tell = text.kindOf(at);
                at++;
                tellOne(tell);
                at++;
            }
        }

        /** Leaves off in front of the sign at the TELL's end, or at a FAULT. */
        private void tellOne(int tell) {
            switch (tell) {
                case Text.SORT: tellSort(); break;
                case Text.HOUSE: tellHouse(); break;
                case Text.DOOR: tellDoor(); break;
                case Text.WORTH: tellWorth(); break;
                case Text.SHOP: tellShop(); break;
                case Text.HALL: tellHall(); break;
                case Text.MAN: tellMan(); break;
                case Text.LAW: tellLaw(); break;
                case Text.CALL: tellCall(); break;
                default: break;
            }
        }

        private void tellSort() {
            long name = newName();
            int worth = number(0, 99);
            if (worth != NONE && town.sorts < MAX_SORTS) {
                town.addSort(name, worth);
            }
        }

        private void tellHouse() {
            long name = newName();
            if (name != NONE && town.houses < MAX_HOUSES) {
                town.houseNames[town.houses] = name;
                town.houses++;
            }
        }

        private void tellDoor() {
            int house = known(town.houseNames, town.houses);
            int other = known(town.houseNames, town.houses);
            if (other != NONE && house == other) {
                text.note(Text.WRONG, text.placeOf(at - 1));
            }
            int minutes = number(1, 99);
            if (minutes != NONE) {
                town.addDoor(house, other, minutes);
            }
        }

        private void tellWorth() {
            int house = known(town.houseNames, town.houses);
            int sort = known(town.sortNames, town.sorts);
            int worth = number(0, 99);
            if (worth != NONE) {
                town.worth[Town.cell(house, sort)] = worth;
            }
        }

        private void tellShop() {
            int house = known(town.houseNames, town.houses);
            int sort = known(town.sortNames, town.sorts);
            if (sort != NONE) {
                town.sells[house] |= 1 << sort;
            }
        }

        private void tellHall() {
            int house = known(town.houseNames, town.houses);
            int sort = known(town.sortNames, town.sorts);
            int more = number(0, 9);
            if (more != NONE) {
                town.table[Town.cell(house, sort)] += more;
            }
        }

        private void tellMan() {
            long name = newName();
            int home = known(town.houseNames, town.houses);
            int hand = 0;
            for (int i = 0; i < Text.TOKENS && text.kindOf(at) != Text.SEMICOLON && isWell(); i++) {
                at++;
                int sort = known(town.sortNames, town.sorts);
                int many = number(0, MOST_OF_ONE);
                if (many != NONE) {
                    hand += (many - Town.inHand(hand, sort)) * Town.oneOf(sort);
                }
            }
            if (isWell() && town.men < MAX_MEN) {
                town.manNames[town.men] = name;
                town.home[town.men] = home;
                town.hand[town.men] = hand;
                town.men++;
            }
        }

        private void tellLaw() {
            town.law = text.kindOf(at) - Text.ANY;
            at++;
        }

        private void tellCall() {
            int man = known(town.manNames, town.men);
            int house = known(town.houseNames, town.houses);
            if (house != NONE && town.home[man] == house) {
                text.note(Text.WRONG, text.placeOf(at - 1));
            }
            if (isWell() && town.calls < MAX_CALLS) {
                town.callMan[town.calls] = man;
                town.callHouse[town.calls] = house;
                town.calls++;
            }
        }

        private boolean isWell() {
            return text.fault == Text.NO_FAULT;
        }

        /** The next TOKEN, a NAME not told ahead; NONE, as behind any FAULT, if it was. */
        private long newName() {
            if (!isWell()) {
                return NONE;
            }
            long name = text.valueOf(at);
            if (indexOf(name, town.sortNames, town.sorts) != NONE
                    || indexOf(name, town.houseNames, town.houses) != NONE
                    || indexOf(name, town.manNames, town.men) != NONE) {
                text.note(Text.TWICE, text.placeOf(at));
                return NONE;
            }
            at++;
            return name;
        }

        /** Whose NAME the next TOKEN is; NONE, as behind any FAULT, if no one's. */
        private int known(long[] names, int count) {
            if (!isWell()) {
                return NONE;
            }
            int found = indexOf(text.valueOf(at), names, count);
            if (found == NONE) {
                text.note(Text.NAME_UNKNOWN, text.placeOf(at));
                return NONE;
            }
            at++;
            return found;
        }

        /** The next TOKEN, a number from least to most; NONE, as behind any FAULT, if it is another. */
        private int number(int least, int most) {
            if (!isWell()) {
                return NONE;
            }
            long number = text.valueOf(at);
            if (number < least || number > most) {
                text.note(Text.WRONG, text.placeOf(at));
                return NONE;
            }
            at++;
            return (int) number;
        }

        private static int indexOf(long name, long[] names, int count) {
            for (int i = 0; i < count && i < names.length; i++) {
                if (names[i] == name) {
                    return i;
                }
            }
            return NONE;
        }
    }

    /** The town as it is told. A hand is one number: two bits for how many there are of each SORT. */
    private static final class Town {
        static final int ANY = 0;
        static final int DEAREST = 1;

        int sorts;
        int houses;
        int doors;
        int men;
        int calls;
        int law;
        final long[] sortNames = new long[MAX_SORTS];
        final long[] houseNames = new long[MAX_HOUSES];
        final long[] manNames = new long[MAX_MEN];
        final int[] plainWorth = new int[MAX_SORTS];
        final int[] worth = new int[MAX_HOUSES * MAX_SORTS];
        final int[] minutes = new int[MAX_HOUSES * MAX_HOUSES];
        final int[] sells = new int[MAX_HOUSES];
        final int[] table = new int[MAX_HOUSES * MAX_SORTS];
        final int[] home = new int[MAX_MEN];
        final int[] hand = new int[MAX_MEN];
        final int[] callMan = new int[MAX_CALLS];
        final int[] callHouse = new int[MAX_CALLS];

        void clear() {
            sorts = 0;
            houses = 0;
            doors = 0;
            men = 0;
            calls = 0;
            law = ANY;
            Arrays.fill(minutes, 0);
            Arrays.fill(sells, 0);
            Arrays.fill(table, 0);
        }

        boolean isSort(int sort) {
            return sort >= 0 && sort < sorts;
        }

        boolean isHouse(int house) {
            return house >= 0 && house < houses;
        }

        boolean isMan(int man) {
            return man >= 0 && man < men;
        }

        /** At each HOUSE it is worth its WORTH till another worth is told: that can only be behind it. */
        void addSort(long name, int newWorth) {
            sortNames[sorts] = name;
            plainWorth[sorts] = newWorth;
            for (int house = 0; house < MAX_HOUSES; house++) {
                worth[cell(house, sorts)] = newWorth;
            }
            sorts++;
        }

        void addDoor(int house, int other, int newMinutes) {
            minutes[house * MAX_HOUSES + other] = newMinutes;
            minutes[other * MAX_HOUSES + house] = newMinutes;
            doors++;
        }

        /** 0: there is no DOOR. */
        int minutesTo(int house, int other) {
            return minutes[house * MAX_HOUSES + other];
        }

        int worthAt(int house, int sort) {
            return worth[house * MAX_SORTS + sort];
        }

        boolean isSold(int house, int sort) {
            return (sells[house] >> sort & 1) != 0;
        }

        static int cell(int house, int sort) {
            return house * MAX_SORTS + sort;
        }

        static int oneOf(int sort) {
            return 1 << 2 * sort;
        }

        static int inHand(int hand, int sort) {
            return hand >> 2 * sort & MOST_OF_ONE;
        }

        static int things(int hand) {
            return Integer.bitCount(hand & 0x155) + 2 * Integer.bitCount(hand & 0x2AA);
        }

        /** The SORTS (bits) of which a hand can take no more. */
        static int fullSorts(int hand) {
            int bits = 0;
            for (int sort = 0; sort < MAX_SORTS; sort++) {
                bits |= inHand(hand, sort) == MOST_OF_ONE ? 1 << sort : 0;
            }
            return bits;
        }

        /** What is left of a hand at a HOUSE by LAW, by any as by cheapest; NONE of an empty one. */
        int leftByLaw(int someHand, int house) {
            int pick = NONE;
            int pickWorth = 0;
            for (int sort = 0; sort < sorts; sort++) {
                int there = worthAt(house, sort);
                boolean better = law == DEAREST ? there > pickWorth : there < pickWorth;
                if (inHand(someHand, sort) > 0 && (pick == NONE || better)) {
                    pick = sort;
                    pickWorth = there;
                }
            }
            return pick;
        }

        /** The SORTS (bits) of which one of a hand may be left at a HOUSE. */
        int choices(int someHand, int house) {
            if (law != ANY) {
                int only = leftByLaw(someHand, house);
                return only == NONE ? 0 : 1 << only;
            }
            int bits = 0;
            for (int sort = 0; sort < sorts; sort++) {
                if (inHand(someHand, sort) > 0) {
                    bits |= 1 << sort;
                }
            }
            return bits;
        }

        boolean mayLeave(int someHand, int house, int sort) {
            return isSort(sort) && (choices(someHand, house) >> sort & 1) != 0;
        }
    }

    /** Where all are, what they have, what lies on the tables, MINUTES and LOSS. */
    private static final class Stand {
        boolean holds;
        private int men;
        final int[] at = new int[MAX_MEN];
        final int[] hand = new int[MAX_MEN];
        final int[] minutes = new int[MAX_MEN];
        final int[] loss = new int[MAX_MEN];
        final int[] table = new int[MAX_HOUSES * MAX_SORTS];

        void begin(Town town) {
            men = town.men;
            System.arraycopy(town.home, 0, at, 0, MAX_MEN);
            System.arraycopy(town.hand, 0, hand, 0, MAX_MEN);
            System.arraycopy(town.table, 0, table, 0, table.length);
            Arrays.fill(minutes, 0);
            Arrays.fill(loss, 0);
        }

        void copyOf(Stand other) {
            men = other.men;
            System.arraycopy(other.at, 0, at, 0, MAX_MEN);
            System.arraycopy(other.hand, 0, hand, 0, MAX_MEN);
            System.arraycopy(other.table, 0, table, 0, table.length);
            System.arraycopy(other.minutes, 0, minutes, 0, MAX_MEN);
            System.arraycopy(other.loss, 0, loss, 0, MAX_MEN);
        }

        /** A MAN comes in, leaving a SORT that he has, or NONE at HOME. */
        void enter(Town town, int man, int house, int sort) {
            minutes[man] += town.minutesTo(at[man], house);
            at[man] = house;
            if (sort != NONE) {
                hand[man] -= Town.oneOf(sort);
                loss[man] += town.worthAt(house, sort);
                table[Town.cell(house, sort)]++;
            }
        }

        void takeBack(Town town, Track track, int step) {
            int man = track.man[step];
            int sort = track.sort[step];
            int house = at[man];
            minutes[man] -= track.minutes[step];
            if (track.from[step] == NONE) {
                hand[man] -= Town.oneOf(sort);
                return;
            }
            at[man] = track.from[step];
            if (sort != NONE) {
                hand[man] += Town.oneOf(sort);
                loss[man] -= town.worthAt(house, sort);
                table[Town.cell(house, sort)]--;
            }
        }

        int thingsCarried() {
            int sum = 0;
            for (int man = 0; man < men; man++) {
                sum += Town.things(hand[man]);
            }
            return sum;
        }

        int thingsOnTables() {
            int sum = 0;
            for (int cell = 0; cell < table.length; cell++) {
                sum += table[cell];
            }
            return sum;
        }

        int menAtHome(Town town) {
            int sum = 0;
            for (int man = 0; man < men; man++) {
                sum += at[man] == town.home[man] ? 1 : 0;
            }
            return sum;
        }
    }

    /** The last steps, to be taken back; those before them are written over. */
    private static final class Track {
        private static final int MOST = 60;

        int count;
        private int next;
        final int[] man = new int[MOST];
        /** NONE: nothing was gone through, a SORT was bought. */
        final int[] from = new int[MOST];
        final int[] sort = new int[MOST];
        final int[] minutes = new int[MOST];

        void clear() {
            count = 0;
        }

        void note(int newMan, int newFrom, int newSort, int newMinutes) {
            man[next] = newMan;
            from[next] = newFrom;
            sort[next] = newSort;
            minutes[next] = newMinutes;
            next = (next + 1) % MOST;
            count = Math.min(count + 1, MOST);
        }

        int takeLast() {
            if (count == 0) {
                return NONE;
            }
            count--;
            next = (next + MOST - 1) % MOST;
            return next;
        }
    }

    /** The states that wait, the one with the least key first. */
    private static final class Heap {
        private static final int MOST_LEVELS = 20;

        int size;
        final long[] key = new long[Ways.STATES];
        private final int[] item = new int[Ways.STATES];
        private final int[] spot = new int[Ways.STATES];

        /** A state comes in. */
        void add(int state) {
            if (size < item.length) {
                put(size, state);
                size++;
                rise(state);
            }
        }

        /** The key of a state that is in has become less. */
        void rise(int state) {
            int at = spot[state];
            for (int level = 0; level < MOST_LEVELS && at > 0; level++) {
                int parent = (at - 1) / 2;
                if (key[item[parent]] <= key[state]) {
                    break;
                }
                put(at, item[parent]);
                at = parent;
            }
            put(at, state);
        }

        int takeLeast() {
            if (size == 0) {
                return NONE;
            }
            int least = item[0];
            size--;
            if (size > 0) {
                sink(item[size]);
            }
            return least;
        }

        private void sink(int state) {
            int at = 0;
            for (int level = 0; level < MOST_LEVELS && 2 * at + 1 < size; level++) {
                int child = 2 * at + 1;
                if (child + 1 < size && key[item[child + 1]] < key[item[child]]) {
                    child++;
                }
                if (key[item[child]] >= key[state]) {
                    break;
                }
                put(at, item[child]);
                at = child;
            }
            put(at, state);
        }

        private void put(int at, int state) {
            item[at] = state;
            spot[state] = at;
        }
    }

    /** WAYS of a MAN over states: a HOUSE, and behind it (in bits) a hand. */
    private static final class Ways {
        static final int DOORS = 0;
        static final int MINUTES = 1;
        static final int LOSS = 2;
        static final int STEPS = 3;
        static final int SUMS = 4;
        static final int TO_HOUSE = 0;
        static final int RID_OF = 1;
        static final int TO_SHOP = 2;
        static final int TO_ALL = 3;

        private static final int HAND_BITS = 2 * MAX_SORTS;
        private static final int HAND = (1 << HAND_BITS) - 1;
        static final int STATES = MAX_HOUSES << HAND_BITS;
        private static final int AT_HOME = 9;
        private static final int BUY = 100;
        private static final long UNSEEN = -1;

        final int[] sums = new int[SUMS];
        final int[] together = new int[MAX_HOUSES];
        /** An empty one at first: no reference is ever null. */
        private Town town = new Town();
        private int home;
        private int start;
        private int by;
        private int goal;
        private int goalHouse;
        private int goalSort;
        private boolean ready;
        private long best;
        private int settled;
        private int steps;
        private final int[] codes = new int[MAX_HOUSES * MAX_SORTS + MAX_SORTS];
        private final Heap heap = new Heap();
        private final long[] key = heap.key;
        private final int[] order = new int[STATES];
        private final byte[] good = new byte[STATES];

        static boolean isBy(int by) {
            return by >= DOORS && by <= LOSS;
        }

        /** Behind a new text nothing that was found holds any more. */
        void forgetLast() {
            ready = false;
        }

        void startWith(Town newTown, Stand stand, int man) {
            int state = stand.at[man] << HAND_BITS | stand.hand[man];
            ready = ready && state == start && newTown.home[man] == home;
            town = newTown;
            home = newTown.home[man];
            start = state;
        }

        /** Whether there is a WAY; what was found last is kept, for one WAY is mostly asked for step by step. */
        boolean find(int newBy, int newGoal, int house, int sort) {
            boolean same = newBy == by && newGoal == goal && house == goalHouse && sort == goalSort;
            if (!ready || !same) {
                by = newBy;
                goal = newGoal;
                goalHouse = house;
                goalSort = sort;
                search();
                markGood();
                ready = true;
            }
            return best != UNSEEN;
        }

        int least() {
            return (int) (best >> 32);
        }

        /** Settles all states that are no farther than the goal. */
        private void search() {
            Arrays.fill(key, UNSEEN);
            heap.size = 0;
            settled = 0;
            best = UNSEEN;
            reach(start, 0);
            for (int i = 0; i < STATES && heap.size > 0; i++) {
                int state = heap.takeLeast();
                if (best != UNSEEN && far(state) > best) {
                    return;
                }
                order[settled] = state;
                settled++;
                if (isGoal(state)) {
                    best = far(state);
                } else {
                    reachAround(state);
                }
            }
        }

        private void reachAround(int state) {
            lookAround(state);
            for (int i = 0; i < steps; i++) {
                reach(after(state, codes[i]), far(state) + cost(state, codes[i]));
            }
        }

        /** Of equal states the one with fewer things first: buying may cost nothing, and no step may lead back. */
        private void reach(int state, long farNow) {
            long newKey = farNow << 4 | Town.things(state & HAND);
            if (key[state] == UNSEEN) {
                key[state] = newKey;
                heap.add(state);
            } else if (newKey < key[state]) {
                key[state] = newKey;
                heap.rise(state);
            }
        }

        private long far(int state) {
            return key[state] >> 4;
        }

        /** From the last settled one on: a state is good that lies on a best WAY. */
        private void markGood() {
            Arrays.fill(good, (byte) 0);
            for (int i = settled - 1; i >= 0 && best != UNSEEN; i--) {
                int state = order[i];
                if (isGoal(state) ? far(state) == best : firstGood(state) != NONE) {
                    good[state] = 1;
                }
            }
        }

        /** The first step by which a best WAY goes on; NONE: none does. */
        private int firstGood(int state) {
            lookAround(state);
            for (int i = 0; i < steps; i++) {
                int next = after(state, codes[i]);
                if (good[next] != 0 && far(state) + cost(state, codes[i]) == far(next)) {
                    return codes[i];
                }
            }
            return NONE;
        }

        /** Goes THE WAY, adding up what it takes; the wanted step, NONE if there are not so many. */
        int follow(int wanted) {
            Arrays.fill(sums, 0);
            int found = NONE;
            int state = start;
            for (int i = 0; i < STATES && !isGoal(state); i++) {
                int code = firstGood(state);
                if (code == NONE) {
                    break;
                }
                if (i == wanted) {
                    found = code;
                }
                sums[DOORS] += doors(code);
                sums[MINUTES] += minutes(state, code);
                sums[LOSS] += loss(code);
                sums[STEPS]++;
                state = after(state, code);
            }
            return found;
        }

        private boolean isGoal(int state) {
            int house = state >> HAND_BITS;
            int hand = state & HAND;
            switch (goal) {
                case TO_HOUSE: return house == goalHouse && (goalSort == NONE || Town.inHand(hand, goalSort) > 0);
                case RID_OF: return Town.inHand(hand, goalSort) == 0;
                case TO_SHOP: return town.isSold(house, goalSort) && Town.inHand(hand, goalSort) < MOST_OF_ONE;
                default: return false;
            }
        }

        /** All steps from a state, in the order in which THE WAY takes them. */
        private void lookAround(int state) {
            int house = state >> HAND_BITS;
            int hand = state & HAND;
            steps = 0;
            for (int next = 0; next < town.houses; next++) {
                if (town.minutesTo(house, next) > 0) {
                    addSteps(10 * next, next == home ? 1 << AT_HOME : town.choices(hand, next));
                }
            }
            addSteps(BUY, town.sells[house] & ~Town.fullSorts(hand));
        }

        private void addSteps(int code, int choices) {
            for (int choice = 0; choice <= AT_HOME && choices >> choice != 0; choice++) {
                if ((choices >> choice & 1) != 0 && steps < codes.length) {
                    codes[steps] = code + choice;
                    steps++;
                }
            }
        }

        private static int after(int state, int code) {
            if (code >= BUY) {
                return state + Town.oneOf(code - BUY);
            }
            int left = code % 10 == AT_HOME ? 0 : Town.oneOf(code % 10);
            return code / 10 << HAND_BITS | (state & HAND) - left;
        }

        private static int doors(int code) {
            return code >= BUY ? 0 : 1;
        }

        private int minutes(int state, int code) {
            return code >= BUY ? 1 : town.minutesTo(state >> HAND_BITS, code / 10);
        }

        private int loss(int code) {
            return code >= BUY || code % 10 == AT_HOME ? 0 : town.worthAt(code / 10, code % 10);
        }

        private long cost(int state, int code) {
            switch (by) {
                case DOORS: return (long) doors(code) << 32 | minutes(state, code);
                case MINUTES: return (long) minutes(state, code) << 32 | doors(code);
                default: return (long) loss(code) << 32 | doors(code);
            }
        }

        /** Behind find() of all. */
        int housesFound() {
            int bits = 0;
            for (int i = 0; i < settled; i++) {
                bits |= 1 << (order[i] >> HAND_BITS);
            }
            return bits;
        }

        /** Behind find() of all. */
        int mostAt(int house) {
            int most = NEVER;
            for (int i = 0; i < settled; i++) {
                if (order[i] >> HAND_BITS == house) {
                    most = Math.max(most, Town.things(order[i] & HAND));
                }
            }
            return most;
        }

        /** Behind find() of all: adds the fewest MINUTES to each HOUSE; below 0 where one can't come. */
        void addMinutes() {
            int found = 0;
            for (int i = 0; i < settled; i++) {
                int house = order[i] >> HAND_BITS;
                if ((found >> house & 1) == 0 && together[house] >= 0) {
                    together[house] += (int) (far(order[i]) >> 32);
                }
                found |= 1 << house;
            }
            for (int house = 0; house < MAX_HOUSES; house++) {
                if ((found >> house & 1) == 0) {
                    together[house] = NEVER;
                }
            }
        }
    }

    /** ROUNDS, by how many things they cost: for each part of the set gone through and each HOUSE the fewest MINUTES. */
    private static final class Rounds {
        private static final int FAR = 1 << 29;

        private int[] here = new int[MAX_HOUSES << MAX_HOUSES];
        private int[] next = new int[MAX_HOUSES << MAX_HOUSES];
        private Town town = new Town();
        private int home;
        private int set;

        int fewest(Town newTown, Stand stand, int man, int houses) {
            town = newTown;
            home = newTown.home[man];
            set = houses;
            int best = FAR;
            int things = Town.things(stand.hand[man]);
            Arrays.fill(here, FAR);
            here[spot(0, stand.at[man])] = 0;
            for (int cost = 0; cost <= things; cost++) {
                goHome();
                best = Math.min(best, here[spot(set, home)]);
                goOn();
                int[] last = here;
                here = next;
                next = last;
            }
            return best == FAR ? NEVER : best;
        }

        /** Where one is who comes in at a HOUSE with this part of the set behind him. */
        private int spot(int part, int house) {
            return (part | 1 << house & set) * MAX_HOUSES + house;
        }

        private boolean isPart(int part) {
            return (part & ~set) == 0;
        }

        private void goHome() {
            for (int part = 0; part <= set; part++) {
                for (int house = 0; house < town.houses && isPart(part); house++) {
                    pass(part, house, home, here);
                }
            }
        }

        private void goOn() {
            Arrays.fill(next, FAR);
            for (int part = 0; part <= set; part++) {
                for (int house = 0; house < town.houses && isPart(part); house++) {
                    goOnFrom(part, house);
                }
            }
        }

        private void goOnFrom(int part, int house) {
            if (here[part * MAX_HOUSES + house] == FAR) {
                return;
            }
            for (int other = 0; other < town.houses; other++) {
                if (other != home) {
                    pass(part, house, other, next);
                }
            }
        }

        private void pass(int part, int house, int other, int[] into) {
            int minutes = town.minutesTo(house, other);
            int sum = here[part * MAX_HOUSES + house] + minutes;
            int to = spot(part, other);
            if (minutes > 0 && sum < into[to]) {
                into[to] = sum;
            }
        }
    }

    /** THE DAY as a flow of one SORT to one HOUSE: from layer to layer (ahead of each CALL) things stay or go by the CALL. */
    private static final class Day {
        private static final int NODES = (MAX_CALLS + 1) * MAX_HOUSES;
        private static final int UNSEEN = -2;

        private int houses;
        private int calls;
        private int target;
        private int queued;
        private final int[] stock = new int[MAX_HOUSES];
        private final int[] unsent = new int[MAX_HOUSES];
        private final int[] from = new int[MAX_CALLS];
        private final int[] to = new int[MAX_CALLS];
        private final int[] carries = new int[MAX_CALLS];
        /** How many stay where they are, by the node that they stay from. */
        private final int[] stay = new int[NODES];
        private final int[] queue = new int[NODES];
        private final int[] cameFrom = new int[NODES];
        private final int[] leadsOn = new int[NODES];

        void prepare(Town town, int sort, int house) {
            houses = town.houses;
            calls = town.calls;
            target = house;
            for (int h = 0; h < houses; h++) {
                stock[h] = town.table[Town.cell(h, sort)];
            }
            for (int man = 0; man < town.men; man++) {
                stock[town.home[man]] += Town.inHand(town.hand[man], sort);
            }
            for (int call = 0; call < calls; call++) {
                from[call] = town.home[town.callMan[call]];
                to[call] = town.callHouse[call];
            }
        }

        /** CARRIED: what is there stays, then one thing more as long as one can come. */
        int flow() {
            Arrays.fill(carries, 0);
            Arrays.fill(stay, 0);
            System.arraycopy(stock, 0, unsent, 0, houses);
            int sum = unsent[target];
            unsent[target] = 0;
            for (int i = 0; i <= MAX_CALLS && sendOne(); i++) {
                sum++;
            }
            return sum;
        }

        private boolean sendOne() {
            spread();
            int node = calls * MAX_HOUSES + target;
            if (cameFrom[node] == UNSEEN) {
                return false;
            }
            for (int i = 0; i < NODES && cameFrom[node] != NONE; i++) {
                change(cameFrom[node], node);
                node = cameFrom[node];
            }
            unsent[node]--;
            return true;
        }

        /** One thing more goes between two nodes of neighbouring layers, or one less the other way. */
        private void change(int node, int next) {
            int more = next / MAX_HOUSES > node / MAX_HOUSES ? 1 : -1;
            int earlier = more > 0 ? node : next;
            if (node % MAX_HOUSES == next % MAX_HOUSES) {
                stay[earlier] += more;
            } else {
                carries[earlier / MAX_HOUSES] += more;
            }
        }

        /** To which nodes one thing more can come. */
        private void spread() {
            Arrays.fill(cameFrom, UNSEEN);
            queued = 0;
            for (int house = 0; house < houses; house++) {
                if (unsent[house] > 0) {
                    reach(cameFrom, house, NONE);
                }
            }
            for (int i = 0; i < queued && i < NODES; i++) {
                int node = queue[i];
                int layer = node / MAX_HOUSES;
                int house = node % MAX_HOUSES;
                if (layer < calls) {
                    reach(cameFrom, node + MAX_HOUSES, node);
                    if (from[layer] == house && carries[layer] == 0) {
                        reach(cameFrom, (layer + 1) * MAX_HOUSES + to[layer], node);
                    }
                }
                if (layer > 0) {
                    int before = node - MAX_HOUSES;
                    if (stay[before] > 0) {
                        reach(cameFrom, before, node);
                    }
                    if (to[layer - 1] == house && carries[layer - 1] > 0) {
                        reach(cameFrom, (layer - 1) * MAX_HOUSES + from[layer - 1], node);
                    }
                }
            }
        }

        /** From which nodes one thing more can go on to the end, behind flow(). */
        private void spreadBack() {
            Arrays.fill(leadsOn, UNSEEN);
            queued = 0;
            reach(leadsOn, calls * MAX_HOUSES + target, NONE);
            for (int i = 0; i < queued && i < NODES; i++) {
                int node = queue[i];
                int layer = node / MAX_HOUSES;
                int house = node % MAX_HOUSES;
                if (layer > 0) {
                    reach(leadsOn, node - MAX_HOUSES, node);
                    if (to[layer - 1] == house && carries[layer - 1] == 0) {
                        reach(leadsOn, (layer - 1) * MAX_HOUSES + from[layer - 1], node);
                    }
                }
                if (layer < calls) {
                    if (stay[node] > 0) {
                        reach(leadsOn, node + MAX_HOUSES, node);
                    }
                    if (from[layer] == house && carries[layer] > 0) {
                        reach(leadsOn, (layer + 1) * MAX_HOUSES + to[layer], node);
                    }
                }
            }
        }

        private void reach(int[] seen, int node, int by) {
            if (seen[node] == UNSEEN && queued < NODES) {
                seen[node] = by;
                queue[queued] = node;
                queued++;
            }
        }

        /**
         * One CALL more brings at most one thing more: it helps if a thing can come to it and can go on from it.
         * To where things can come flow() has found when it tried to send one too many.
         */
        int help(Town town, int what) {
            int sum = flow();
            spreadBack();
            for (int place = 0; place <= calls; place++) {
                for (int man = 0; man < town.men; man++) {
                    int house = firstHelped(place, town.home[man]);
                    if (house != NONE) {
                        return what == 0 ? sum + 1 : what == 1 ? place : what == 2 ? man : house;
                    }
                }
            }
            return NEVER;
        }

        private int firstHelped(int place, int home) {
            if (cameFrom[place * MAX_HOUSES + home] == UNSEEN) {
                return NONE;
            }
            for (int house = 0; house < houses; house++) {
                if (house != home && leadsOn[place * MAX_HOUSES + house] != UNSEEN) {
                    return house;
                }
            }
            return NONE;
        }

        int bestTurn() {
            int best = flow();
            int turn = NEVER;
            for (int call = 0; call < calls; call++) {
                for (int other = call + 1; other < calls; other++) {
                    exchange(call, other);
                    int sum = flow();
                    exchange(call, other);
                    if (sum > best) {
                        best = sum;
                        turn = 100 * call + other;
                    }
                }
            }
            return turn;
        }

        private void exchange(int call, int other) {
            int callFrom = from[call];
            int callTo = to[call];
            from[call] = from[other];
            to[call] = to[other];
            from[other] = callFrom;
            to[other] = callTo;
        }
    }

    /** What goes on by itself: a YEAR by LOTS, and the CALLS that are owed. */
    private static final class Chance {
        private static final int MOST_OWED = MAX_CALLS + MAX_MEN * MAX_SORTS * MOST_OF_ONE;

        final Stand stand = new Stand();
        int steps;
        int loss;
        int dropped;
        private int owed;
        private final int[] owedMan = new int[MOST_OWED];
        private final int[] owedHouse = new int[MOST_OWED];

        static int lot(int n, int seed, int which) {
            int h = mixed(mixed(seed, 23), which);
            return n > 0 ? (h >>> 1) % n : 0;
        }

        private static int mixed(int h, int with) {
            int mix = (h ^ with) * 1103515245 + 12345;
            return mix ^ mix >>> 15;
        }

        void live(Town town, Stand now, int seed, int days) {
            stand.copyOf(now);
            steps = 0;
            loss = 0;
            for (int day = 0; day < days; day++) {
                for (int man = 0; man < town.men; man++) {
                    int lot = lot(doorsAt(town, stand.at[man]) + 1, seed, 6 * day + man);
                    int house = behindDoor(town, stand.at[man], lot);
                    if (house != NONE) {
                        goByLaw(town, man, house);
                    }
                }
            }
        }

        private static int doorsAt(Town town, int house) {
            int doors = 0;
            for (int other = 0; other < town.houses; other++) {
                doors += town.minutesTo(house, other) > 0 ? 1 : 0;
            }
            return doors;
        }

        /** NONE: there are not so many DOORS. */
        private static int behindDoor(Town town, int house, int wanted) {
            int doors = 0;
            for (int other = 0; other < town.houses; other++) {
                if (town.minutesTo(house, other) > 0) {
                    if (doors == wanted) {
                        return other;
                    }
                    doors++;
                }
            }
            return NONE;
        }

        /** False: he has nothing to leave. */
        private boolean goByLaw(Town town, int man, int house) {
            boolean home = house == town.home[man];
            int sort = home ? NONE : town.leftByLaw(stand.hand[man], house);
            if (!home && sort == NONE) {
                return false;
            }
            stand.enter(town, man, house, sort);
            steps++;
            loss += sort == NONE ? 0 : town.worthAt(house, sort);
            return true;
        }

        void payAll(Town town) {
            stand.begin(town);
            steps = 0;
            loss = 0;
            dropped = 0;
            owed = 0;
            for (int call = 0; call < town.calls; call++) {
                owe(town.callMan[call], town.callHouse[call]);
            }
            for (int i = 0; i < owed && i < MOST_OWED; i++) {
                pay(town, owedMan[i], owedHouse[i]);
            }
        }

        private void owe(int man, int house) {
            if (owed < MOST_OWED) {
                owedMan[owed] = man;
                owedHouse[owed] = house;
                owed++;
            }
        }

        private void pay(Town town, int man, int house) {
            if (!goByLaw(town, man, house)) {
                dropped++;
                return;
            }
            for (int other = 0; other < town.men; other++) {
                if (town.home[other] == house) {
                    owe(other, town.home[man]);
                    return;
                }
            }
        }
    }

    /** What is SEEN, and the VISITS that make it. */
    private static final class Visits {
        private static final int MOST = 30;
        /** How many parts of what is KNOWN there can be: 6 MEN leave 6 things, at 6 places at most. */
        private static final int MOST_PARTS = 1 << MAX_MEN;

        int seen;
        private final int[] seenCell = new int[MOST];
        private final int[] seenMany = new int[MOST];
        private final int[] known = new int[MAX_HOUSES * MAX_SORTS];
        private final int[] weight = new int[MAX_HOUSES * MAX_SORTS];
        private int parts;
        private long[] here = new long[MOST_PARTS];
        private long[] after = new long[MOST_PARTS];

        void clear() {
            seen = 0;
        }

        int add(int house, int sort, int n) {
            if (seen >= MOST) {
                return NONE;
            }
            seenCell[seen] = Town.cell(house, sort);
            seenMany[seen] = n;
            seen++;
            return seen - 1;
        }

        boolean isKnown(int k) {
            return k >= 0 && k <= seen;
        }

        /** Takes up the first k; false if more is KNOWN than all MEN can leave. A part is a number of mixed places. */
        boolean know(Town town, int k) {
            Arrays.fill(known, NONE);
            for (int i = 0; i < k && i < MOST; i++) {
                known[seenCell[i]] = seenMany[i];
            }
            int sum = 0;
            parts = 1;
            for (int cell = 0; cell < known.length; cell++) {
                sum += Math.max(known[cell], 0);
                if (sum > town.men) {
                    return false;
                }
                weight[cell] = parts;
                parts *= Math.max(known[cell], 0) + 1;
            }
            return parts <= MOST_PARTS;
        }

        /** How many VISITS make all that is KNOWN, of those in which a MAN (NONE: no matter) was at a HOUSE. */
        long ways(Town town, int onlyMan, int onlyHouse) {
            Arrays.fill(here, 0);
            here[0] = 1;
            for (int man = 0; man < town.men; man++) {
                Arrays.fill(after, 0);
                if (man != onlyMan) {
                    System.arraycopy(here, 0, after, 0, parts);
                }
                for (int house = 0; house < town.houses; house++) {
                    if (house != town.home[man] && (man != onlyMan || house == onlyHouse)) {
                        visit(town.choices(town.hand[man], house), house);
                    }
                }
                long[] last = here;
                here = after;
                after = last;
            }
            return here[parts - 1];
        }

        private void visit(int choices, int house) {
            for (int sort = 0; sort < MAX_SORTS; sort++) {
                if ((choices >> sort & 1) != 0) {
                    leave(Town.cell(house, sort));
                }
            }
        }

        private void leave(int cell) {
            int many = known[cell];
            boolean matters = many >= 0 && weight[cell] > 0;
            for (int part = 0; part < parts; part++) {
                int next = matters ? part + weight[cell] : part;
                boolean open = !matters || part / weight[cell] % (many + 1) < many;
                if (open && next < parts) {
                    after[next] += here[part];
                }
            }
        }
    }
}
