/** The boundaries that the Terms (II) and promises 6 to 14, 22 and 33 to 35 name: what stands, steps, SLOTS, counts. */
final class EdgeTownTest {
    private static final Edge EDGE = new Edge();
    private static final int LEAST = Integer.MIN_VALUE;
    private static final int GREATEST = Integer.MAX_VALUE;
    /** What is never one of n: below 0, as many as there are, far out. */
    private static final int[] FAR = {-2, LEAST, LEAST + 1, GREATEST, 1 << 16, 1 << 8};
    private static final String LINE = "sort s 5;sort t 2;house a;house b;house c;door a b 3;door b c 4;shop b t;";

    private EdgeTownTest() {
    }

    /** As many of each as there can be. */
    static String widest() {
        StringBuilder text = new StringBuilder("sort p 0;sort q 99;sort r 1;sort s 2;sort t 3;");
        for (char house = 'a'; house <= 'j'; house++) {
            text.append("house ").append(house).append(';');
        }
        for (int door = 0; door < 20; door++) {
            text.append("door ").append((char) ('a' + door % 10)).append(' ').append((char) ('a' + (door + 1 + door / 10) % 10))
                    .append(' ').append(99 - door).append(';');
        }
        for (int man = 0; man < 6; man++) {
            text.append("man m").append((char) ('a' + man)).append(' ').append((char) ('j' - man)).append(":t ").append(man % 4)
                    .append(",p 3;");
        }
        return text + "call mb a;".repeat(20) + "worth j t 99;hall j t 9;shop j t;";
    }

    private static void door() {
        EDGE.says(6, "MINUTES of the DOOR between two HOUSES; 0: there is none; NONE: no such ones, one and the same.");
        HallTables t = Feeder.town(widest());
        EDGE.is("a b", t.door(0, 1), 99);
        EDGE.says(6, "DOORS (both ways; MINUTES 1 .. 99;");
        EDGE.is("b a", t.door(1, 0), 99);
        EDGE.is("j a", t.door(9, 0), 90);
        EDGE.is("a j", t.door(0, 9), 90);
        EDGE.is("a c", t.door(0, 2), 89);
        EDGE.is("none between a and d", t.door(0, 3), 0);
        EDGE.is("none between j and e", t.door(9, 4), 0);
        for (int house = 0; house < 10; house++) {
            EDGE.is("one and the same " + house, t.door(house, house), -1);
            EDGE.is("house 10", t.door(house, 10), -1);
            EDGE.is("house 10", t.door(10, house), -1);
            EDGE.is("house -1", t.door(house, -1), -1);
            EDGE.is("house -1", t.door(-1, house), -1);
        }
        for (int far : FAR) {
            EDGE.is("house " + far, t.door(far, 0), -1);
            EDGE.is("house " + far, t.door(0, far), -1);
        }
        HallTables one = Feeder.town("house a;house b;door a b 1;");
        EDGE.is("the least MINUTES", one.door(1, 0), 1);
        EDGE.is("house 2 of two", one.door(1, 2), -1);
        EDGE.is("no house at all", new HallTables().door(0, 1), -1);
    }

    private static void worthAndTable() {
        EDGE.says(7, "What a SORT is worth at a HOUSE (NONE: its WORTH); NONE: no such ones.");
        HallTables t = Feeder.town(widest());
        EDGE.is("0", t.worth(0, 0), 0);
        EDGE.is("99", t.worth(-1, 1), 99);
        EDGE.is("the last SORT there", t.worth(9, 4), 99);
        EDGE.is("its WORTH", t.worth(-1, 4), 3);
        EDGE.is("elsewhere", t.worth(8, 4), 3);
        EDGE.is("house 10", t.worth(10, 0), -1);
        EDGE.is("sort 5", t.worth(0, 5), -1);
        EDGE.is("sort -1", t.worth(0, -1), -1);
        EDGE.is("sort 5 by NONE", t.worth(-1, 5), -1);
        EDGE.is("sort -1 by NONE", t.worth(-1, -1), -1);
        EDGE.says(8, "How many of a SORT lie on a table; NONE: no such ones.");
        EDGE.is("nine", t.table(9, 4), 9);
        EDGE.is("none", t.table(9, 3), 0);
        EDGE.is("house 10", t.table(10, 0), -1);
        EDGE.is("house -1", t.table(-1, 0), -1);
        EDGE.is("sort 5", t.table(0, 5), -1);
        EDGE.is("sort -1", t.table(0, -1), -1);
        for (int far : FAR) {
            EDGE.is("table of house " + far, t.table(far, 0), -1);
            EDGE.is("table of sort " + far, t.table(0, far), -1);
            EDGE.is("worth of house " + far, t.worth(far, 0), -1);
            EDGE.is("worth of sort " + far, t.worth(0, far), -1);
        }
        HallTables bare = Feeder.town("sort s 7;");
        EDGE.is("a WORTH without HOUSES", bare.worth(-1, 0), 7);
        EDGE.is("no table", bare.table(0, 0), -1);
        HallTables house = Feeder.town("house a;");
        EDGE.is("no sort 0", house.worth(0, 0), -1);
        EDGE.is("no sort 0", house.table(0, 0), -1);
    }

    private static void manAndHas() {
        EDGE.says(9, "Of a MAN: what 0 where he is, 1 his HOME, 2 how many things he has, 3 MINUTES gone, 4 LOSS till now."
                + " NONE for others.");
        HallTables t = Feeder.town(widest());
        int[] last = {4, 4, 4, 0, 0};
        for (int what = 0; what < 5; what++) {
            EDGE.is("man(5, " + what + ")", t.man(5, what), last[what]);
            EDGE.is("man(6, " + what + ")", t.man(6, what), -1);
            EDGE.is("man(-1, " + what + ")", t.man(-1, what), -1);
        }
        EDGE.is("man(0, 5)", t.man(0, 5), -1);
        EDGE.is("man(0, -1)", t.man(0, -1), -1);
        EDGE.is("no man", Feeder.town(LINE).man(0, 0), -1);
        String full = LINE + "sort u 1;sort v 1;sort w 1;man m a:s 3,t 3,u 3,v 3,w 3;man n a:s 0;man o a;";
        HallTables hands = Feeder.town(full);
        EDGE.is("all things", hands.man(0, 2), 15);
        EDGE.is("none of a sort", hands.man(1, 2), 0);
        EDGE.is("nothing told", hands.man(2, 2), 0);
        EDGE.says(10, "How many of a SORT he has; NONE: no such ones.");
        for (int sort = 0; sort < 5; sort++) {
            EDGE.is("three", hands.has(0, sort), 3);
            EDGE.is("none", hands.has(2, sort), 0);
        }
        EDGE.is("sort 5", hands.has(0, 5), -1);
        EDGE.is("sort -1", hands.has(0, -1), -1);
        EDGE.is("man 3", hands.has(3, 0), -1);
        EDGE.is("man -1", hands.has(-1, 0), -1);
        for (int far : FAR) {
            EDGE.is("man " + far, hands.man(far, 0), -1);
            EDGE.is("what " + far, hands.man(0, far), -1);
            EDGE.is("of man " + far, hands.has(far, 0), -1);
            EDGE.is("of sort " + far, hands.has(0, far), -1);
        }
    }

    private static void may() {
        EDGE.says(11, "Of a SORT whether he may leave it when he comes in at a HOUSE (by LAW; no DOOR looked at): 1, else 0;"
                + " NONE: no such ones, his HOME.");
        HallTables t = Feeder.town(LINE + "man m a:s 1;man n b;");
        EDGE.is("one of it", t.may(0, 1, 0), 1);
        EDGE.is("no DOOR", t.may(0, 2, 0), 1);
        EDGE.is("none of it", t.may(0, 1, 1), 0);
        EDGE.is("his HOME", t.may(0, 0, 0), -1);
        EDGE.is("his HOME, none of it", t.may(0, 0, 1), -1);
        EDGE.is("another's HOME", t.may(1, 0, 0), 0);
        EDGE.is("n's HOME", t.may(1, 1, 0), -1);
        EDGE.is("house 3", t.may(0, 3, 0), -1);
        EDGE.is("house -1", t.may(0, -1, 0), -1);
        EDGE.is("sort 2", t.may(0, 1, 2), -1);
        EDGE.is("sort -1", t.may(0, 1, -1), -1);
        EDGE.is("man 2", t.may(2, 1, 0), -1);
        EDGE.is("man -1", t.may(-1, 1, 0), -1);
        for (int far : FAR) {
            EDGE.is("man " + far, t.may(far, 1, 0), -1);
            EDGE.is("house " + far, t.may(0, far, 0), -1);
            EDGE.is("sort " + far, t.may(0, 1, far), -1);
        }
        EDGE.is("he goes", t.go(0, 1, 0), 0);
        EDGE.is("where he is, nothing left", t.may(0, 1, 0), 0);
        EDGE.is("his HOME still", t.may(0, 0, 0), -1);
        EDGE.says(11, "(by LAW; no DOOR looked at)");
        String three = "sort s 4;sort t 5;sort u 5;sort v 4;house a;house b;house c;worth c s 5;worth c u 4;man m a:";
        String[] hands = {"s 1,t 1,u 1,v 1", "u 1,v 1", "t 1,u 1", "s 1,v 1", "v 1", "t 3,u 3"};
        // At b the worths are 4, 5, 5, 4, at c they are 5, 5, 4, 4: which one is left by dearest, by cheapest.
        int[][] dearest = {{1, 0}, {2, 2}, {1, 1}, {0, 0}, {3, 3}, {1, 1}};
        int[][] cheapest = {{0, 2}, {3, 2}, {1, 2}, {0, 3}, {3, 3}, {1, 2}};
        for (int i = 0; i < hands.length; i++) {
            HallTables dear = Feeder.town(three + hands[i] + ";law dearest;");
            HallTables cheap = Feeder.town(three + hands[i] + ";law cheapest;");
            HallTables any = Feeder.town(three + hands[i] + ";");
            for (int house = 1; house < 3; house++) {
                for (int sort = 0; sort < 4; sort++) {
                    String at = hands[i] + " at " + house + ", sort " + sort;
                    EDGE.is("dearest of " + at, dear.may(0, house, sort), sort == dearest[i][house - 1] ? 1 : 0);
                    EDGE.is("cheapest of " + at, cheap.may(0, house, sort), sort == cheapest[i][house - 1] ? 1 : 0);
                    EDGE.is("any of " + at, any.may(0, house, sort), hands[i].indexOf("stuv".charAt(sort)) >= 0 ? 1 : 0);
                }
            }
        }
        HallTables zero = Feeder.town("sort s 0;sort t 0;house a;house b;man m a:t 1;law dearest;");
        EDGE.is("worth nothing, yet the dearest", zero.may(0, 1, 1), 1);
        EDGE.is("not in hand", zero.may(0, 1, 0), 0);
        HallTables most = Feeder.town("sort s 99;sort t 99;house a;house b;man m a:t 1;law cheapest;");
        EDGE.is("worth 99, yet the cheapest", most.may(0, 1, 1), 1);
        EDGE.is("not in hand", most.may(0, 1, 0), 0);
    }

    private static void go() {
        EDGE.says(12, "He GOES to a HOUSE, leaving a SORT (NONE at HOME): 0; 1 no DOOR; 2 he has nothing; 3 he may not leave that.");
        HallTables t = Feeder.town(LINE + "man m a:s 2;man n b;man o b:t 1;");
        EDGE.is("no DOOR from a to c", t.go(0, 2, 0), 1);
        EDGE.is("no DOOR to where he is", t.go(0, 0, -1), 1);
        EDGE.is("no DOOR, whatever he leaves", t.go(0, 2, 1), 1);
        EDGE.is("no DOOR, nothing left", t.go(0, 2, -1), 1);
        EDGE.is("none of t", t.go(0, 1, 1), 3);
        EDGE.is("nothing left", t.go(0, 1, -1), 3);
        EDGE.is("n has nothing", t.go(1, 0, 0), 2);
        EDGE.is("n has nothing, NONE", t.go(1, 0, -1), 2);
        EDGE.is("o has one thing", t.go(2, 2, 1), 0);
        EDGE.is("then no DOOR ahead of nothing", t.go(2, 0, 1), 1);
        EDGE.is("at HOME a SORT is not left", t.go(2, 1, 1), 3);
        EDGE.is("at HOME with nothing", t.go(2, 1, -1), 0);
        EDGE.is("s to another's HOME", t.go(0, 1, 0), 0);
        EDGE.is("it lies there", t.table(1, 0), 1);
        EDGE.is("the last thing", t.go(0, 2, 0), 0);
        EDGE.is("it lies there", t.table(2, 0), 1);
        EDGE.is("nothing in hand", t.man(0, 2), 0);
        EDGE.is("nothing more", t.go(0, 1, 0), 2);
        EDGE.says(12, "NONE, and nothing happens: no such ones. With 1 .. 3 nothing happens either.");
        t = Feeder.town(LINE + "man m a:s 2;man n b;");
        String before = Look.at(t);
        int[][] refused = {{2, 1, 0, -1}, {-1, 1, 0, -1}, {0, 3, 0, -1}, {0, -1, 0, -1}, {0, 1, 2, -1}, {0, 1, -2, -1},
            {0, 2, 0, 1}, {1, 0, 0, 2}, {0, 1, 1, 3}, {0, 1, -1, 3}, {2, 3, 2, -1}};
        for (int[] r : refused) {
            EDGE.is("go(" + r[0] + ", " + r[1] + ", " + r[2] + ")", t.go(r[0], r[1], r[2]), r[3]);
            EDGE.same("nothing happens", Look.at(t), before);
        }
        for (int far : FAR) {
            EDGE.is("man " + far, t.go(far, 1, 0), -1);
            EDGE.is("house " + far, t.go(0, far, 0), -1);
            EDGE.is("sort " + far, t.go(0, 1, far), -1);
        }
        EDGE.same("nothing happens", Look.at(t), before);
        EDGE.is("nothing to take back", t.undo(), false);
    }

    private static void comingIn() {
        EDGE.says(12, "who comes in at a HOUSE that is not his HOME leaves one thing of his on its table");
        HallTables t = Feeder.town("sort s 99;house a;house b;door a b 99;worth b s 0;man m a:s 3;man n b;");
        EDGE.is("to b", t.go(0, 1, 0), 0);
        EDGE.is("99 MINUTES", t.man(0, 3), 99);
        EDGE.is("worth nothing there", t.man(0, 4), 0);
        EDGE.is("two are left", t.has(0, 0), 2);
        EDGE.is("n has none of it", t.has(1, 0), 0);
        EDGE.says(12, "At HOME nothing is left.");
        EDGE.is("home", t.go(0, 0, -1), 0);
        EDGE.is("two still", t.has(0, 0), 2);
        EDGE.is("an empty table", t.table(0, 0), 0);
        EDGE.is("the MINUTES count", t.man(0, 3), 198);
        EDGE.says(12, "(of alike ones the first SORT); who has nothing can't come in");
        String alike = "sort s 4;sort t 4;house a;house b;door a b 1;man m a:s 1,t 1;law ";
        for (String law : new String[] {"dearest;", "cheapest;"}) {
            t = Feeder.town(alike + law);
            EDGE.is(law + " the second of alike ones", t.go(0, 1, 1), 3);
            EDGE.is(law + " the first", t.go(0, 1, 0), 0);
            EDGE.is(law + " home", t.go(0, 0, -1), 0);
            EDGE.is(law + " the only one", t.go(0, 1, 1), 0);
            EDGE.is(law + " home", t.go(0, 0, -1), 0);
            EDGE.is(law + " nothing", t.go(0, 1, 0), 2);
        }
        t = Feeder.town(alike + "any;");
        EDGE.is("any: of his choice", t.go(0, 1, 1), 0);
    }

    private static void buy() {
        EDGE.says(13, "He BUYS: 0; 1 it is not sold where he is; 2 he has 3. NONE likewise.");
        HallTables t = Feeder.town(LINE + "shop a s;man m a:s 2,t 3;man n a;man o c;");
        EDGE.is("a third", t.buy(0, 0), 0);
        EDGE.is("a fourth", t.buy(0, 0), 2);
        EDGE.is("not sold, and he has 3", t.buy(0, 1), 1);
        EDGE.is("not sold", t.buy(1, 1), 1);
        EDGE.is("the first", t.buy(1, 0), 0);
        EDGE.is("o's HOUSE sells nothing", t.buy(2, 0), 1);
        EDGE.is("a MINUTE", t.man(0, 3), 1);
        EDGE.is("no LOSS", t.man(0, 4), 0);
        EDGE.is("three", t.has(0, 0), 3);
        EDGE.is("nothing on the table", t.table(0, 0), 0);
        String before = Look.at(t);
        int[][] refused = {{3, 0, -1}, {-1, 0, -1}, {0, 2, -1}, {0, -1, -1}, {0, 0, 2}, {0, 1, 1}, {2, 1, 1}, {2, 2, -1}};
        for (int[] r : refused) {
            EDGE.is("buy(" + r[0] + ", " + r[1] + ")", t.buy(r[0], r[1]), r[2]);
            EDGE.same("nothing happens", Look.at(t), before);
        }
        for (int far : FAR) {
            EDGE.is("man " + far, t.buy(far, 0), -1);
            EDGE.is("sort " + far, t.buy(0, far), -1);
        }
        EDGE.says(13, "at a HOUSE that sells a SORT one more of it, if he has less than 3: one MINUTE");
        EDGE.is("m goes to b", t.go(0, 1, 1), 0);
        EDGE.is("t is sold there", t.buy(0, 1), 0);
        EDGE.is("s is not", t.buy(0, 0), 1);
        EDGE.is("a MINUTE each, three for the DOOR", t.man(0, 3), 5);
    }

    private static HallTables toAndFro(int steps) {
        HallTables t = Feeder.town("sort s 1;house a;house b;door a b 2;shop b s;man m a:s 3;");
        step(t, 0, steps);
        return t;
    }

    private static void step(HallTables t, int from, int steps) {
        for (int step = from; step < from + steps; step++) {
            int kind = step % 3;
            EDGE.is("step " + step, kind == 0 ? t.go(0, 1, 0) : kind == 1 ? t.buy(0, 0) : t.go(0, 0, -1), 0);
        }
    }

    private static void undo() {
        EDGE.says(14, "The last step of all (GO or BUY) is taken back: true; false: there is none (the last 60 can be).");
        for (int steps : new int[] {0, 1, 2, 3, 59, 60, 61, 62, 119, 120, 121, 150}) {
            HallTables t = toAndFro(steps);
            int can = Math.min(steps, 60);
            EDGE.is("of " + steps + " steps", t.count(7), can);
            for (int i = can; i > 0; i--) {
                EDGE.is("undo", t.undo(), true);
                EDGE.is("then", t.count(7), i - 1);
            }
            EDGE.is("one more", t.undo(), false);
            EDGE.same("of " + steps + " steps what stays", withoutSteps(t), withoutSteps(toAndFro(steps - can)));
        }
        for (int again : new int[] {1, 18, 19, 20, 21, 59, 60, 61, 99}) {
            HallTables t = toAndFro(99);
            for (int i = 0; i < 18; i++) {
                EDGE.is("undo of the last 18", t.undo(), true);
            }
            EDGE.is("of 60 there are", t.count(7), 42);
            step(t, 81, again);
            int can = Math.min(42 + again, 60);
            EDGE.is("then", t.count(7), can);
            for (int i = 0; i < can; i++) {
                EDGE.is("undo", t.undo(), true);
            }
            EDGE.is("one more", t.undo(), false);
            EDGE.same("behind " + again + " more what stays", withoutSteps(t), withoutSteps(toAndFro(81 + again - can)));
        }
        HallTables t = Feeder.town(LINE + "man m a:s 1;man n b:t 1;");
        EDGE.is("m", t.go(0, 1, 0), 0);
        EDGE.is("n", t.go(1, 2, 1), 0);
        EDGE.is("refused", t.go(0, 2, 0), 2);
        EDGE.is("refused", t.buy(1, 1), 1);
        EDGE.is("m buys", t.buy(0, 1), 0);
        EDGE.is("two MEN's steps", t.count(7), 3);
        EDGE.is("m's", t.undo(), true);
        EDGE.is("is the last", t.man(0, 2), 0);
        EDGE.is("n's", t.undo(), true);
        EDGE.is("n is at HOME", t.man(1, 0), 1);
        EDGE.is("m is at b", t.man(0, 0), 1);
        EDGE.is("a new step", t.buy(0, 1), 0);
        EDGE.is("is the last", t.undo(), true);
        EDGE.is("m's first", t.undo(), true);
        EDGE.is("none", t.undo(), false);
        EDGE.same("all is as in the beginning", Look.at(t), Look.at(Feeder.town(LINE + "man m a:s 1;man n b:t 1;")));
    }

    private static String withoutSteps(HallTables t) {
        return Look.at(t).replaceAll("count 7 = [0-9]+", "");
    }

    private static void riches() {
        EDGE.says(22, "RICHES (house NONE: POOREST, -2 without HOUSES); NONE: no such one.");
        EDGE.is("without HOUSES", new HallTables().riches(-1), -2);
        EDGE.is("without HOUSES, house 0", new HallTables().riches(0), -1);
        EDGE.is("one HOUSE", Feeder.town("house a;").riches(-1), 0);
        EDGE.is("without SORTS", Feeder.town("house a;").riches(0), 0);
        HallTables t = Feeder.town(widest());
        EDGE.is("nine at 99", t.riches(9), 891);
        EDGE.is("an empty table", t.riches(8), 0);
        EDGE.is("house 10", t.riches(10), -1);
        for (int far : FAR) {
            EDGE.is("house " + far, t.riches(far), -1);
        }
        EDGE.says(22, "POOREST: the HOUSE with the least; of alike ones the first.");
        String town = "sort s 2;sort z 0;house a;house b;house c;door a b 1;door b c 1;man m a:s 1,z 1;hall a s 1;";
        EDGE.is("b and c are alike", Feeder.town(town).riches(-1), 1);
        EDGE.is("c", Feeder.town(town + "hall b s 1;").riches(-1), 2);
        EDGE.is("all are alike", Feeder.town(town + "hall b s 1;hall c s 1;").riches(-1), 0);
        EDGE.is("what is worth nothing", Feeder.town(town + "hall b z 9;hall c s 1;").riches(-1), 1);
        EDGE.is("at its worth there", Feeder.town(town + "hall b s 1;hall c s 1;worth c s 1;").riches(-1), 2);
        t = Feeder.town(town);
        EDGE.is("m goes", t.go(0, 1, 0), 0);
        EDGE.is("b is richer", t.riches(1), 2);
        EDGE.is("c is the poorest then", t.riches(-1), 2);
        EDGE.is("m goes on", t.go(0, 2, 1), 0);
        EDGE.is("by nothing c is no richer", t.riches(-1), 2);
    }

    private static void slots() {
        EDGE.says(33, "are held in a SLOT (0 .. 2): true; false: no such one.");
        HallTables t = Feeder.town(LINE + "man m a:s 2;");
        for (int slot : new int[] {-1, 3, LEAST, GREATEST}) {
            EDGE.is("hold(" + slot + ")", t.hold(slot), false);
            EDGE.is("restore(" + slot + ")", t.restore(slot), false);
        }
        EDGE.is("none holds anything", t.count(9), 0);
        for (int slot = 0; slot < 3; slot++) {
            EDGE.is("restore(" + slot + ") of what holds nothing", t.restore(slot), false);
            EDGE.is("hold(" + slot + ")", t.hold(slot), true);
            EDGE.is("so many hold something", t.count(9), slot + 1);
            EDGE.is("hold(" + slot + ") again", t.hold(slot), true);
            EDGE.is("no more", t.count(9), slot + 1);
        }
        EDGE.is("m goes", t.go(0, 1, 0), 0);
        EDGE.is("what is held later is in its place", t.hold(1), true);
        EDGE.is("m buys", t.buy(0, 1), 0);
        EDGE.is("three hold something", t.count(9), 3);
        EDGE.is("the step stays", t.undo(), true);
        EDGE.is("m buys", t.buy(0, 1), 0);
        EDGE.says(34, "They go on from what a SLOT holds (that stays there; nothing can be taken back then): true;"
                + " false, and nothing happens: no such one, nothing is held.");
        EDGE.is("restore(1)", t.restore(1), true);
        EDGE.is("at b", t.man(0, 0), 1);
        EDGE.is("his MINUTES", t.man(0, 3), 3);
        EDGE.is("his LOSS", t.man(0, 4), 5);
        EDGE.is("the table", t.table(1, 0), 1);
        EDGE.is("his hand", t.has(0, 1), 0);
        EDGE.is("nothing can be taken back", t.undo(), false);
        EDGE.is("no steps", t.count(7), 0);
        EDGE.is("m goes on", t.go(0, 2, 0), 0);
        EDGE.is("one step", t.count(7), 1);
        EDGE.is("it stays there", t.restore(1), true);
        EDGE.is("at b", t.man(0, 0), 1);
        EDGE.is("one of s", t.has(0, 0), 1);
        EDGE.is("restore(0)", t.restore(0), true);
        EDGE.is("at HOME", t.man(0, 0), 0);
        EDGE.is("no MINUTES", t.man(0, 3), 0);
        EDGE.is("no LOSS", t.man(0, 4), 0);
        EDGE.is("a clean table", t.table(1, 0), 0);
        EDGE.is("m goes", t.go(0, 1, 0), 0);
        String before = Look.at(t);
        EDGE.is("no such one", t.restore(3), false);
        EDGE.same("nothing happens", Look.at(t), before);
        EDGE.is("a step", t.undo(), true);
        t = Feeder.town(LINE + "man m a:s 2;man n b:t 2;man o c:s 1;");
        EDGE.is("m goes", t.go(0, 1, 0), 0);
        EDGE.is("n goes", t.go(1, 2, 1), 0);
        EDGE.is("n goes on", t.go(1, 1, -1), 0);
        EDGE.is("n buys", t.buy(1, 1), 0);
        before = withoutSteps(t);
        EDGE.is("hold", t.hold(0), true);
        EDGE.is("o goes", t.go(2, 1, 0), 0);
        EDGE.is("o goes home", t.go(2, 2, -1), 0);
        EDGE.is("m goes home", t.go(0, 0, -1), 0);
        EDGE.is("n goes", t.go(1, 0, 1), 0);
        EDGE.is("it is SEEN", t.see(0, 0, 1), 0);
        EDGE.is("forgotten", t.forget(), 1);
        EDGE.is("restore", t.restore(0), true);
        EDGE.same("all MEN, all tables", withoutSteps(t).replace("count 9 = 1", "count 9 = 0"), before);
        EDGE.is("it is SEEN", t.see(0, 0, 1), 0);
        Feeder.feed(t, "law");
        EDGE.is("restore", t.restore(0), true);
        EDGE.is("what is SEEN stays", t.count(8), 1);
        EDGE.is("the tape stays", t.count(6), 3);
        t = Feeder.town(LINE + "man m a:s 2;");
        EDGE.is("m goes", t.go(0, 1, 0), 0);
        before = Look.at(t);
        EDGE.is("nothing is held", t.restore(2), false);
        EDGE.same("nothing happens", Look.at(t), before);
        EDGE.is("a step still", t.undo(), true);
    }

    private static void counts() {
        EDGE.says(35, "8 SEEN ones, 9 SLOTS that hold something, 10 all things on tables, 11 all things carried. NONE for others.");
        HallTables t = Feeder.town(widest());
        int[] due = {5, 10, 20, 6, 20, 0, 0, 0, 0, 0, 9, 25};
        for (int what = 0; what < due.length; what++) {
            EDGE.is("count(" + what + ")", t.count(what), due[what]);
            EDGE.is("count(" + what + ") of nothing", new HallTables().count(what), 0);
        }
        EDGE.is("count(12)", t.count(12), -1);
        EDGE.is("count(-1)", t.count(-1), -1);
        for (int far : FAR) {
            EDGE.is("count(" + far + ")", t.count(far), -1);
        }
        EDGE.is("ma is at j already", t.go(0, 9, -1), 1);
        EDGE.is("mb from i to j", t.go(1, 9, 4), 0);
        EDGE.is("one more on tables", t.count(10), 10);
        EDGE.is("one less carried", t.count(11), 24);
        EDGE.is("mb buys t", t.buy(1, 4), 0);
        EDGE.is("none less on tables", t.count(10), 10);
        EDGE.is("one more carried", t.count(11), 25);
        EDGE.is("two steps", t.count(7), 2);
        EDGE.is("SEEN", t.see(9, 4, 0), 0);
        EDGE.is("one SEEN", t.count(8), 1);
        HallTables first = Feeder.town("sort s 1;sort t 1;house a;house b;hall a s 1;hall a t 2;hall b s 4;man m a:s 1;man n b:t 2;");
        EDGE.is("on all tables", first.count(10), 7);
        EDGE.is("by all MEN", first.count(11), 3);
        EDGE.says(35, "5 LAW (0 any, 1 dearest, 2 cheapest), 6 bytes on the tape");
        for (int law = 0; law < 3; law++) {
            String[] laws = {"law any;", "law dearest;", "law cheapest;"};
            EDGE.is(laws[law], Feeder.town(laws[law]).count(5), law);
        }
        EDGE.is("an empty tape", t.count(6), 0);
        Feeder.feed(t, "x");
        EDGE.is("one byte", t.count(6), 1);
        Feeder.feed(t, "x".repeat(1979));
        EDGE.is("nearly all", t.count(6), 1980);
        Feeder.feed(t, "x".repeat(20));
        EDGE.is("all", t.count(6), 2000);
        EDGE.says(35, "0 SORTS, 1 HOUSES, 2 DOORS");
        EDGE.is("DOORS of the same two HOUSES, as told", Feeder.town("house a;house b;door a b 1;door b a 2;").count(2), 2);
    }

    public static void main(String[] args) {
        door();
        worthAndTable();
        manAndHas();
        may();
        go();
        comingIn();
        buy();
        undo();
        riches();
        slots();
        counts();
        EDGE.end();
    }
}
