/** The boundaries that the Terms (II) and promises 15 to 21 and 23 name: WAYS, RID, what is in reach, meeting, rounds. */
final class EdgeWayTest {
    private static final Edge EDGE = new Edge();
    private static final int LEAST = Integer.MIN_VALUE;
    private static final int GREATEST = Integer.MAX_VALUE;
    private static final int[] FAR = {-2, LEAST, LEAST + 1, GREATEST, 1 << 16, 1 << 8, 32};
    private static final String AB = "sort s 5;sort t 2;house a;house b;house c;door a b 3;";
    private static final String LINE = AB + "door b c 4;";

    private EdgeWayTest() {
    }

    /** DOORS, MINUTES, LOSS in one row, then the steps. */
    private static void way(HallTables t, int man, int house, int sort, int by, int[] sums, int... steps) {
        String call = man + ", " + house + ", " + sort + ", " + by + ", ";
        for (int what = 0; what < 3; what++) {
            EDGE.is("way(" + call + what + ")", t.way(man, house, sort, by, what), sums[what]);
        }
        EDGE.is("way(" + call + "3)", t.way(man, house, sort, by, 3), steps.length);
        for (int i = 0; i < steps.length; i++) {
            EDGE.is("step(" + call + i + ")", t.step(man, house, sort, by, i), steps[i]);
        }
        EDGE.is("step(" + call + steps.length + ")", t.step(man, house, sort, by, steps.length), -1);
        EDGE.is("step(" + call + "-1)", t.step(man, house, sort, by, -1), -1);
    }

    private static void wayByAll(HallTables t, int man, int house, int sort, int[] sums, int... steps) {
        for (int by = 0; by < 3; by++) {
            way(t, man, house, sort, by, sums, steps);
        }
    }

    private static void noWay(HallTables t, int man, int house, int sort) {
        for (int by = 0; by < 3; by++) {
            String call = man + ", " + house + ", " + sort + ", " + by + ", ";
            for (int what = 0; what < 4; what++) {
                EDGE.is("way(" + call + what + ")", t.way(man, house, sort, by, what), -2);
            }
            EDGE.is("way(" + call + "4)", t.way(man, house, sort, by, 4), -1);
            EDGE.is("way(" + call + "-1)", t.way(man, house, sort, by, -1), -1);
            EDGE.is("step(" + call + "0)", t.step(man, house, sort, by, 0), -1);
        }
    }

    private static int[] sums(int doors, int minutes, int loss) {
        return new int[] {doors, minutes, loss};
    }

    private static void atOnce() {
        EDGE.says(15, "(Being there with it at once: no step.)");
        HallTables t = Feeder.town(AB + "man m a:s 1;man n a;");
        wayByAll(t, 0, 0, 0, sums(0, 0, 0));
        wayByAll(t, 0, 0, -1, sums(0, 0, 0));
        wayByAll(t, 1, 0, -1, sums(0, 0, 0));
        noWay(t, 0, 0, 1);
        noWay(t, 1, 0, 0);
        EDGE.says(15, "to a HOUSE with at least one of a SORT in hand (SORT NONE: with whatever) when he is there");
        wayByAll(t, 0, 1, -1, sums(1, 3, 5), 10);
        noWay(t, 0, 1, 0);
        noWay(t, 0, 1, 1);
        wayByAll(Feeder.town(AB + "man m a:s 2;"), 0, 1, 0, sums(1, 3, 5), 10);
        t = Feeder.town(AB + "man m a:s 1,t 1;");
        wayByAll(t, 0, 1, 0, sums(1, 3, 2), 11);
        wayByAll(t, 0, 1, 1, sums(1, 3, 5), 10);
        t = Feeder.town(AB + "shop b t;man m a:s 1;");
        way(t, 0, 1, 1, 0, sums(1, 4, 5), 10, 101);
        EDGE.says(15, "-2: there is none; NONE: no such ones.");
        t = Feeder.town(AB + "man m a:s 1;man n a;");
        noWay(t, 0, 2, -1);
        noWay(t, 1, 1, -1);
        wayByAll(t, 0, 1, -1, sums(1, 3, 5), 10);
        noWay(Feeder.town("house a;house b;man m a;"), 0, 1, -1);
        wayByAll(Feeder.town("house a;man m a;"), 0, 0, -1, sums(0, 0, 0));
    }

    private static void noSuchOnes() {
        EDGE.says(15, "Where NONE and -2 could both be told, it is NONE, if it is not told otherwise.");
        HallTables t = Feeder.town(AB + "man m a:s 1;man n a;");
        int[][] edges = {{2, -1}, {3, -1}, {2, -2}, {3, -1}};
        for (int house = 0; house < 3; house++) {
            for (int part = 0; part < 4; part++) {
                for (int side = 0; side < 2; side++) {
                    int[] a = {0, house, 0, 0};
                    a[part] = edges[part][side];
                    EDGE.is("no such way", t.way(a[0], a[1], a[2], a[3], 0), -1);
                    EDGE.is("no such step", t.step(a[0], a[1], a[2], a[3], 0), -1);
                }
                for (int far : FAR) {
                    int[] a = {0, house, 0, 0};
                    a[part] = far;
                    EDGE.is("no such way", t.way(a[0], a[1], a[2], a[3], 0), -1);
                    EDGE.is("no such step", t.step(a[0], a[1], a[2], a[3], 0), -1);
                }
            }
        }
        for (int far : FAR) {
            EDGE.is("what " + far, t.way(0, 1, -1, 0, far), -1);
            EDGE.is("step " + far, t.step(0, 1, -1, 0, far), -1);
        }
        EDGE.is("what 3", t.way(0, 1, -1, 0, 3), 1);
        EDGE.is("what 4", t.way(0, 1, -1, 0, 4), -1);
        EDGE.is("what 0", t.way(0, 1, -1, 0, 0), 1);
        EDGE.is("what -1", t.way(0, 1, -1, 0, -1), -1);
        EDGE.is("no SORT 0", Feeder.town("house a;man m a;").way(0, 0, 0, 0, 0), -1);
    }

    private static void fewest() {
        String town = "sort s 1;house a;house b;house c;house d;door a b 2;door b d 2;door a c 2;door c d 1;man m a:s 3;";
        EDGE.says(15, "by 0 the fewest DOORS, of alike ones the fewest MINUTES");
        HallTables t = Feeder.town(town);
        way(t, 0, 3, -1, 0, sums(2, 3, 2), 20, 30);
        way(Feeder.town(town + "door b d 1;"), 0, 3, -1, 0, sums(2, 3, 2), 10, 30);
        way(Feeder.town(town + "door a d 99;"), 0, 3, -1, 0, sums(1, 99, 1), 30);
        EDGE.says(15, "by 1 the fewest MINUTES, then DOORS");
        way(t, 0, 3, -1, 1, sums(2, 3, 2), 20, 30);
        way(Feeder.town(town + "door a d 2;"), 0, 3, -1, 1, sums(1, 2, 1), 30);
        way(Feeder.town(town + "door a d 3;"), 0, 3, -1, 1, sums(1, 3, 1), 30);
        way(Feeder.town(town + "door a d 4;"), 0, 3, -1, 1, sums(2, 3, 2), 20, 30);
        EDGE.says(15, "by 2 the least LOSS (of each thing left its worth at that HOUSE), then DOORS");
        way(t, 0, 3, -1, 2, sums(2, 4, 2), 10, 30);
        way(Feeder.town(town + "worth b s 2;"), 0, 3, -1, 2, sums(2, 3, 2), 20, 30);
        way(Feeder.town(town + "door a d 99;"), 0, 3, -1, 2, sums(1, 99, 1), 30);
        way(Feeder.town(town + "door a d 99;worth c s 0;"), 0, 3, -1, 2, sums(1, 99, 1), 30);
        String shop = "sort s 9;sort t 1;house a;house b;house d;door a b 1;door b d 1;door a d 50;shop b t;man m a:s 1;worth b s ";
        for (int worth = 0; worth < 12; worth++) {
            t = Feeder.town(shop + worth + ";");
            way(t, 0, 2, -1, 0, sums(1, 50, 9), 20);
            way(t, 0, 2, -1, 1, sums(2, 3, worth + 1), 10, 101, 21);
            if (worth < 8) {
                way(t, 0, 2, -1, 2, sums(2, 3, worth + 1), 10, 101, 21);
            } else {
                way(t, 0, 2, -1, 2, sums(1, 50, 9), 20);
            }
        }
    }

    private static void order() {
        EDGE.says(16, "THE WAY: step by step the first one with which it is so: GO by HOUSES, then SORTS, ahead of BUY by SORTS.");
        HallTables t = Feeder.town("sort s 1;sort t 1;house a;house b;house c;house d;door a c 2;door a b 2;door c d 2;"
                + "door b d 2;man m a:s 2,t 2;");
        wayByAll(t, 0, 3, -1, sums(2, 4, 2), 10, 30);
        wayByAll(t, 0, 3, 0, sums(2, 4, 2), 10, 31);
        t = Feeder.town("sort s 1;sort t 1;house a;house b;house c;house d;door a c 2;door a b 2;door c d 2;"
                + "door b d 2;man m a:s 1,t 2;");
        wayByAll(t, 0, 3, 0, sums(2, 4, 2), 11, 31);
        wayByAll(t, 0, 3, 1, sums(2, 4, 2), 10, 31);
        t = Feeder.town("sort s 4;sort t 4;house a;house b;door a b 1;shop a s;shop a t;man m a;man n a:t 1;");
        wayByAll(t, 0, 1, -1, sums(1, 2, 4), 100, 10);
        wayByAll(t, 1, 1, -1, sums(1, 1, 4), 11);
        way(t, 0, 0, 1, 0, sums(0, 1, 0), 101);
        way(t, 0, 0, 1, 1, sums(0, 1, 0), 101);
        // Buying costs neither LOSS nor DOORS: by 2 what comes first is bought till he has 3 of it.
        way(t, 0, 0, 1, 2, sums(0, 4, 0), 100, 100, 100, 101);
        way(t, 0, 0, 0, 2, sums(0, 1, 0), 100);
        t = Feeder.town("sort s 4;sort t 4;house a;house b;door a b 1;shop a t;man m b:s 1,t 1;");
        way(t, 0, 1, 0, 2, sums(0, 0, 0));
        wayByAll(t, 0, 0, 1, sums(1, 1, 4), 0);
        wayByAll(t, 0, 0, 0, sums(1, 1, 4), 1);
        t = Feeder.town("sort s 1;house a;house b;house c;door a b 1;door b c 1;door a c 2;man m a:s 1;man n b:s 1;");
        way(t, 0, 2, -1, 1, sums(1, 2, 1), 20);
        EDGE.is("n goes to a", t.go(1, 0, 0), 0);
        way(t, 1, 1, -1, 0, sums(1, 1, 0), 19);
        noWay(t, 1, 2, -1);
    }

    private static void codes() {
        EDGE.says(16, "10 * the HOUSE + the SORT that is left (9: none), or 100 + the SORT that is bought;"
                + " NONE: not so many, there is none, no such ones.");
        StringBuilder text = new StringBuilder("sort p 1;sort q 1;sort r 1;sort s 1;sort t 1;");
        for (char house = 'a'; house <= 'j'; house++) {
            text.append("house ").append(house).append(';');
        }
        HallTables t = Feeder.town(text + "door a j 1;shop a t;shop j p;man m a:t 1;man n j:p 1;");
        way(t, 0, 9, -1, 0, sums(1, 1, 1), 94);
        way(t, 1, 0, -1, 0, sums(1, 1, 1), 0);
        way(t, 0, 9, 4, 0, sums(1, 2, 1), 104, 94);
        way(t, 1, 0, 0, 0, sums(1, 2, 1), 100, 0);
        EDGE.is("m goes to j", t.go(0, 9, 4), 0);
        EDGE.is("n goes to a", t.go(1, 0, 0), 0);
        way(t, 0, 0, -1, 0, sums(1, 1, 0), 9);
        way(t, 1, 9, -1, 0, sums(1, 1, 0), 99);
        for (int i : new int[] {1, 2, 100, GREATEST, -1, LEAST}) {
            EDGE.is("not so many: " + i, t.step(0, 0, -1, 0, i), -1);
        }
        EDGE.is("of a step never made", new HallTables().step(0, 0, -1, 0, 0), -1);
    }

    private static void buying() {
        String line = "sort s 1;house a;house b;house c;house d;house e;door a b 2;door b c 2;door c d 2;door d e 2;shop a s;";
        EDGE.says(15, "BUY a SORT");
        HallTables t = Feeder.town(line + "man m a;man n a:s 3;");
        wayByAll(t, 0, 1, -1, sums(1, 3, 1), 100, 10);
        way(t, 0, 3, -1, 0, sums(3, 9, 3), 100, 100, 100, 10, 20, 30);
        noWay(t, 0, 4, -1);
        way(t, 1, 3, -1, 0, sums(3, 6, 3), 10, 20, 30);
        noWay(t, 1, 4, -1);
        noWay(t, 1, 3, 0);
        t = Feeder.town(line + "shop b s;man n a:s 3;");
        way(t, 0, 4, -1, 0, sums(4, 9, 4), 10, 100, 20, 30, 40);
        noWay(t, 0, 4, 0);
        EDGE.says(15, "Halls are not looked at.");
        t = Feeder.town(AB + "hall a s 9;hall b s 9;man m a;man n a:t 1;");
        noWay(t, 0, 1, -1);
        noWay(t, 0, 0, 0);
        noWay(t, 1, 1, 0);
        EDGE.says(15, "At HOME nothing is left.");
        t = Feeder.town(LINE + "man m b:s 1;");
        EDGE.is("m goes to a", t.go(0, 0, 0), 0);
        wayByAll(t, 0, 1, -1, sums(1, 3, 0), 19);
        noWay(t, 0, 2, -1);
        t = Feeder.town(LINE + "man m b:s 2;");
        EDGE.is("m goes to a", t.go(0, 0, 0), 0);
        wayByAll(t, 0, 2, -1, sums(2, 7, 5), 19, 20);
        wayByAll(t, 0, 1, 0, sums(1, 3, 0), 19);
        noWay(t, 0, 2, 0);
    }

    private static void lawful() {
        EDGE.says(15, "by dearest that which is worth most at that HOUSE, by cheapest least (of alike ones the first SORT)");
        String alike = "sort s 4;sort t 4;house a;house b;door a b 1;man m a:s 1,t 1;law ";
        for (String law : new String[] {"dearest;", "cheapest;"}) {
            HallTables t = Feeder.town(alike + law);
            noWay(t, 0, 1, 0);
            wayByAll(t, 0, 1, 1, sums(1, 1, 4), 10);
        }
        HallTables dear = Feeder.town(alike + "dearest;worth b t 5;");
        noWay(dear, 0, 1, 1);
        wayByAll(dear, 0, 1, 0, sums(1, 1, 5), 11);
        HallTables cheap = Feeder.town(alike + "cheapest;worth b t 3;");
        noWay(cheap, 0, 1, 1);
        wayByAll(cheap, 0, 1, 0, sums(1, 1, 3), 11);
        HallTables any = Feeder.town(alike + "any;");
        wayByAll(any, 0, 1, 1, sums(1, 1, 4), 10);
        wayByAll(any, 0, 1, 0, sums(1, 1, 4), 11);
    }

    private static void ridIs(HallTables t, int man, int sort, int by, int doors, int minutes, int loss) {
        int[] sums = {doors, minutes, loss};
        for (int what = 0; what < 3; what++) {
            EDGE.is("rid(" + man + ", " + sort + ", " + by + ", " + what + ")", t.rid(man, sort, by, what), sums[what]);
        }
        EDGE.is("what 3", t.rid(man, sort, by, 3), -1);
        EDGE.is("what -1", t.rid(man, sort, by, -1), -1);
    }

    private static void rid() {
        EDGE.says(17, "RID of a SORT: a WAY to any HOUSE with none of it in hand, by 0 .. 2 likewise, and step by step likewise.");
        HallTables t = Feeder.town(LINE + "man m a:s 1,t 1;man n a:s 2;man o c;");
        for (int by = 0; by < 3; by++) {
            ridIs(t, 2, 0, by, 0, 0, 0);
            ridIs(t, 1, 1, by, 0, 0, 0);
            ridIs(t, 0, 0, by, 1, 3, 5);
            ridIs(t, 0, 1, by, 1, 3, 2);
            ridIs(t, 1, 0, by, 2, 7, 10);
        }
        t = Feeder.town(AB + "door b c 7;man m a:s 2;");
        ridIs(t, 0, 0, 0, 2, 10, 10);
        ridIs(t, 0, 0, 1, 3, 9, 10);
        ridIs(t, 0, 0, 2, 2, 10, 10);
        t = Feeder.town(LINE + "man m a:s 1,t 1;law dearest;");
        for (int by = 0; by < 3; by++) {
            ridIs(t, 0, 0, by, 1, 3, 5);
            ridIs(t, 0, 1, by, 2, 7, 7);
        }
        t = Feeder.town(LINE + "worth c s 0;man m a:s 1,t 1;");
        ridIs(t, 0, 0, 0, 1, 3, 5);
        ridIs(t, 0, 0, 2, 2, 7, 2);
        t = Feeder.town(LINE + "worth c s 0;worth b t 0;shop a t;man m a:s 1;");
        ridIs(t, 0, 0, 1, 1, 3, 5);
        ridIs(t, 0, 0, 2, 2, 8, 0);
        EDGE.is("m goes to b", t.go(0, 1, 0), 0);
        ridIs(t, 0, 0, 0, 0, 0, 0);
        EDGE.says(17, "RID by 0 .. 2: what 0 DOORS, 1 MINUTES, 2 LOSS; -2: it can't be; NONE: no such ones.");
        t = Feeder.town(AB + "man m c:s 1;man n c;man o a:s 3;");
        for (int by = 0; by < 3; by++) {
            ridIs(t, 1, 0, by, 0, 0, 0);
            ridIs(t, 2, 0, by, 5, 15, 15);
            for (int what = 0; what < 3; what++) {
                EDGE.is("no DOOR", t.rid(0, 0, by, what), -2);
            }
            EDGE.is("no DOOR, what 3", t.rid(0, 0, by, 3), -1);
        }
        int[][] none = {{3, 0, 0}, {-1, 0, 0}, {0, 2, 0}, {0, -1, 0}, {0, 0, 3}, {0, 0, -1}};
        for (int[] a : none) {
            EDGE.is("no such one", t.rid(a[0], a[1], a[2], 0), -1);
        }
        for (int far : FAR) {
            EDGE.is("man " + far, t.rid(far, 0, 0, 0), -1);
            EDGE.is("sort " + far, t.rid(0, far, 0, 0), -1);
            EDGE.is("by " + far, t.rid(0, 0, far, 0), -1);
            EDGE.is("what " + far, t.rid(0, 0, 0, far), -1);
        }
    }

    private static void get() {
        EDGE.says(18, "The least number of DOORS till he can BUY a SORT (0: he can where he is); -2: never; NONE: no such ones."
                + " (With 3 of it he can't, wherever.)");
        HallTables t = Feeder.town(LINE + "shop c s;man m a:s 3;man n a:t 1;man o c;man p c:s 3;man q c:s 2;");
        EDGE.is("three of it, left on the way", t.get(0, 0), 2);
        EDGE.is("one thing for two DOORS", t.get(1, 0), -2);
        EDGE.is("where he is", t.get(2, 0), 0);
        EDGE.is("where he is, with three", t.get(3, 0), 2);
        EDGE.is("where he is, with two", t.get(4, 0), 0);
        EDGE.is("nowhere sold", t.get(0, 1), -2);
        EDGE.is("nowhere sold", t.get(2, 1), -2);
        EDGE.is("q buys", t.buy(4, 0), 0);
        EDGE.is("then he has three", t.get(4, 0), 2);
        EDGE.is("that is taken back", t.undo(), true);
        EDGE.is("then he has two", t.get(4, 0), 0);
        EDGE.is("two things for two DOORS", Feeder.town(LINE + "shop c s;man n a:t 2;").get(0, 0), 2);
        EDGE.is("another SORT bought on the way", Feeder.town(LINE + "shop c s;shop b t;man n a:t 1;").get(0, 0), 2);
        EDGE.is("no thing at all", Feeder.town(LINE + "shop b s;man n a;").get(0, 0), -2);
        EDGE.is("one thing for one DOOR", Feeder.town(LINE + "shop b s;man n a:s 1;").get(0, 0), 1);
        EDGE.is("three of it and no DOOR", Feeder.town(AB + "shop c s;man n c:s 3;").get(0, 0), -2);
        EDGE.is("two of it and no DOOR", Feeder.town(AB + "shop c s;man n c:s 2;").get(0, 0), 0);
        EDGE.is("dearest: at b he has three still", Feeder.town(LINE + "shop b t;man m a:s 1,t 3;law dearest;").get(0, 1), 3);
        EDGE.is("any: two of it at b", Feeder.town(LINE + "shop b t;man m a:s 1,t 3;").get(0, 1), 1);
        int[][] none = {{5, 0}, {-1, 0}, {0, 2}, {0, -1}};
        for (int[] a : none) {
            EDGE.is("no such one", t.get(a[0], a[1]), -1);
        }
        for (int far : FAR) {
            EDGE.is("man " + far, t.get(far, 0), -1);
            EDGE.is("sort " + far, t.get(0, far), -1);
        }
    }

    /** Ten HOUSES, one behind the other. */
    private static String longLine() {
        StringBuilder text = new StringBuilder("sort s 1;sort t 1;sort u 1;sort v 1;sort w 1;");
        for (char house = 'a'; house <= 'j'; house++) {
            text.append("house ").append(house).append(';');
        }
        for (char house = 'a'; house < 'j'; house++) {
            text.append("door ").append(house).append(' ').append((char) (house + 1)).append(" 99;");
        }
        return text.toString();
    }

    private static void reach() {
        String[] hands = {"", ":s 1", ":s 2", ":s 3", ":s 3,t 1", ":s 3,t 2", ":s 3,t 3", ":s 3,t 3,u 1", ":s 3,t 3,u 2",
            ":s 3,t 3,u 3", ":s 3,t 3,u 3,v 1", ":s 3,t 3,u 3,v 3,w 3"};
        int[] things = {0, 1, 2, 3, 4, 5, 6, 7, 8, 9, 10, 15};
        for (int i = 0; i < hands.length; i++) {
            HallTables t = Feeder.town(longLine() + "man m a" + hands[i] + ";");
            EDGE.says(19, "IN REACH of a MAN: HOUSES to which there is a WAY with whatever");
            EDGE.is("with " + things[i], t.inReach(0), (1 << Math.min(things[i] + 1, 10)) - 1);
            EDGE.says(20, "MOST there: the most things that he can have in hand when he is there");
            for (int house = 0; house < 10; house++) {
                EDGE.is("most(0, " + house + ")", t.most(0, house), house <= things[i] ? things[i] - house : -2);
            }
        }
        EDGE.says(20, "MOST at a HOUSE; -2: not IN REACH; NONE: no such ones.");
        HallTables t = Feeder.town(AB + "shop a s;shop a s;man m a;man n c;man o b:t 3;");
        int[][] due = {{3, 2, -2}, {-2, -2, 0}, {5, 5, -2}};
        int[] bits = {3, 4, 3};
        for (int man = 0; man < 3; man++) {
            for (int house = 0; house < 3; house++) {
                EDGE.is("most(" + man + ", " + house + ")", t.most(man, house), due[man][house]);
            }
            EDGE.is("most(" + man + ", 3)", t.most(man, 3), -1);
            EDGE.is("most(" + man + ", -1)", t.most(man, -1), -1);
            EDGE.is("inReach(" + man + ")", t.inReach(man), bits[man]);
        }
        EDGE.is("man 3", t.most(3, 2), -1);
        EDGE.is("man -1", t.most(-1, 2), -1);
        EDGE.is("all that can be had", Feeder.town(AB + "sort u 1;sort v 1;sort w 1;shop a s;shop a t;shop a u;shop a v;"
                + "shop a w;man m a;").most(0, 0), 15);
        EDGE.says(19, "IN REACH (bits); NONE: no such one.");
        EDGE.is("man 3", t.inReach(3), -1);
        EDGE.is("man -1", t.inReach(-1), -1);
        EDGE.is("no one", new HallTables().inReach(0), -1);
        for (int far : FAR) {
            EDGE.is("inReach of man " + far, t.inReach(far), -1);
            EDGE.is("most of man " + far, t.most(far, 0), -1);
            EDGE.is("most at house " + far, t.most(0, far), -1);
        }
    }

    private static void meetIs(HallTables t, int man, int other, int house, int minutes) {
        EDGE.is("meet(" + man + ", " + other + ", 0)", t.meet(man, other, 0), house);
        EDGE.is("meet(" + man + ", " + other + ", 1)", t.meet(man, other, 1), minutes);
        EDGE.is("meet(" + other + ", " + man + ", 0)", t.meet(other, man, 0), house);
        EDGE.is("meet(" + other + ", " + man + ", 1)", t.meet(other, man, 1), minutes);
        EDGE.is("what 2", t.meet(man, other, 2), -1);
        EDGE.is("what -1", t.meet(man, other, -1), -1);
    }

    private static void meet() {
        EDGE.says(21, "(each with whatever, by himself) are least together; of alike ones the first");
        meetIs(Feeder.town(LINE + "man m a:s 3;man n c:s 3;"), 0, 1, 0, 7);
        meetIs(Feeder.town(LINE + "man m a:s 1;man n c:s 1;"), 0, 1, 1, 7);
        meetIs(Feeder.town(LINE + "man m a:s 1;man n c:s 2;"), 0, 1, 0, 7);
        meetIs(Feeder.town(LINE + "man m a:s 2;man n c;"), 0, 1, 2, 7);
        meetIs(Feeder.town(LINE + "man m c;man n c;"), 0, 1, 2, 0);
        meetIs(Feeder.town(LINE + "shop a s;man m a;man n c:s 1;"), 0, 1, 1, 8);
        meetIs(Feeder.town(LINE + "shop a s;man m a;man n c:s 2;"), 0, 1, 0, 7);
        meetIs(Feeder.town(LINE + "door a c 6;man m a:s 2;man n c:s 2;"), 0, 1, 0, 6);
        meetIs(Feeder.town(LINE + "door a c 8;man m a:s 2;man n c:s 2;"), 0, 1, 0, 7);
        HallTables t = Feeder.town(LINE + "man m a:s 2;man n a:s 2;");
        EDGE.is("n goes to b", t.go(1, 1, 0), 0);
        meetIs(t, 0, 1, 0, 3);
        EDGE.says(21, "-2: there is none; NONE: no such ones, one and the same.");
        meetIs(Feeder.town(LINE + "man m a:s 1;man n c;"), 0, 1, -2, -2);
        meetIs(Feeder.town(AB + "man m a:s 3;man n c:s 3;"), 0, 1, -2, -2);
        t = Feeder.town(AB + "man m a:s 3;man n c:s 3;");
        int[][] none = {{0, 0}, {1, 1}, {0, 2}, {2, 0}, {-1, 0}, {0, -1}, {-1, -1}, {2, 2}};
        for (int[] a : none) {
            for (int what = 0; what < 2; what++) {
                EDGE.is("meet(" + a[0] + ", " + a[1] + ", " + what + ")", t.meet(a[0], a[1], what), -1);
            }
        }
        for (int far : FAR) {
            EDGE.is("man " + far, t.meet(far, 0, 0), -1);
            EDGE.is("other " + far, t.meet(0, far, 0), -1);
            EDGE.is("what " + far, t.meet(0, 1, far), -1);
        }
    }

    private static void round() {
        EDGE.says(23, "(doors may be gone through more often; each coming in that is not HOME costs one thing, whatever LAW)");
        String star = "sort s 1;sort t 9;house a;house b;house c;house d;door a b 1;door a c 2;door a d 3;";
        int[] one = {0, 0, 2, 2, 4, 4, 6, 6, 6, 6, 8, 8, 10, 10, 12, 12};
        for (String law : new String[] {"", "law dearest;", "law cheapest;"}) {
            for (int things = 0; things < 5; things++) {
                String hand = things == 4 ? ":s 3,t 1" : ":s " + things;
                HallTables t = Feeder.town(star + "shop a s;man m a" + hand + ";" + law);
                for (int set = 0; set < 16; set++) {
                    int need = Integer.bitCount(set & 14);
                    EDGE.is(things + " things, round(0, " + set + ")", t.round(0, set), need <= things ? one[set] : -2);
                }
            }
        }
        String two = "sort s 1;house a;house b;house c;door a c 10;door a b 2;door b c 2;man m a:s ";
        int[] due = {-2, 20, 14, 8};
        for (int things = 0; things < 4; things++) {
            EDGE.is("to c with " + things, Feeder.town(two + things + ";").round(0, 4), due[things]);
        }
        EDGE.says(23, "from where he is, back to HOME at last, nothing bought (where he is now is gone through)");
        HallTables t = Feeder.town(star + "shop a s;shop b s;man m a:s 2;man n a;");
        EDGE.is("no set, at HOME", t.round(0, 0), 0);
        EDGE.is("nothing bought", t.round(1, 2), -2);
        EDGE.is("with nothing, HOME", t.round(1, 1), 0);
        EDGE.is("m goes to b", t.go(0, 1, 0), 0);
        EDGE.is("no set", t.round(0, 0), 1);
        EDGE.is("where he is", t.round(0, 2), 1);
        EDGE.is("HOME and where he is", t.round(0, 3), 1);
        EDGE.is("c too", t.round(0, 6), 5);
        EDGE.is("c and d", t.round(0, 14), -2);
        t = Feeder.town(LINE + "man m a:s 2;man n a:s 3;");
        EDGE.is("m goes to b", t.go(0, 1, 0), 0);
        EDGE.is("m goes to c", t.go(0, 2, 0), 0);
        EDGE.is("no thing to come home by b", t.round(0, 0), -2);
        EDGE.is("n goes to b", t.go(1, 1, 0), 0);
        EDGE.is("n goes to c", t.go(1, 2, 0), 0);
        EDGE.is("one thing to come home by b", t.round(1, 0), 7);
        EDGE.is("through all", t.round(1, 7), 7);
        EDGE.says(23, "ROUND through a set of HOUSES (bits); -2: it can't be; NONE: no such ones.");
        t = Feeder.town(AB + "man m a:s 3;");
        EDGE.is("c can't be reached", t.round(0, 4), -2);
        EDGE.is("all three", t.round(0, 7), -2);
        EDGE.is("b", t.round(0, 2), 6);
        int[] none = {8, 9, 16, 1 << 10, 1 << 30, -1, LEAST, LEAST + 1, GREATEST};
        for (int set : none) {
            EDGE.is("set " + set, t.round(0, set), -1);
        }
        for (int far : FAR) {
            EDGE.is("man " + far, t.round(far, 0), -1);
        }
        EDGE.is("man 1", t.round(1, 2), -1);
        EDGE.is("man -1", t.round(-1, 2), -1);
        String ring = longLine() + "door j a 99;man m a:s 3,t 3,u 2;man n a:s 3,t 3,u 3;";
        t = Feeder.town(ring);
        EDGE.is("nine HOUSES with eight things", t.round(0, 1023), -2);
        EDGE.is("nine HOUSES with nine things", t.round(1, 1023), 990);
        EDGE.is("eight HOUSES on both sides of f with eight things", t.round(0, 0b1111011111), -2);
        EDGE.is("a set of ten", t.round(1, 1024), -1);
    }

    /** ROUNDS of one whose HOME is not the first HOUSE, told of a MAN who is not the first one. */
    private static void roundsElsewhere() {
        EDGE.says(23, "the fewest MINUTES (doors may be gone through more often;");
        String town = "sort s 1;house a;house b;house c;house d;door c a 5;door c b 2;door a b 1;door b d 4;man k a:s 1;man m c:s ";
        int[][] due = {{0, -2, -2, -2, 0, -2, -2, -2}, {0, 10, 4, -2, 0, 10, 4, -2}, {0, 8, 4, 8, 0, 8, 4, 8},
            {0, 6, 4, 6, 0, 6, 4, 6}};
        for (int things = 0; things < 4; things++) {
            HallTables t = Feeder.town(town + things + ";");
            for (int set = 0; set < 8; set++) {
                EDGE.is("with " + things + ", round(1, " + set + ")", t.round(1, set), due[things][set]);
            }
            EDGE.is("with " + things + " to d", t.round(1, 8), things < 3 ? -2 : 12);
        }
        HallTables t = Feeder.town(town + "3;");
        EDGE.is("m goes to a", t.go(1, 0, 0), 0);
        EDGE.is("from a", t.round(1, 0), 3);
        EDGE.is("from a through b", t.round(1, 2), 3);
        EDGE.is("from a through HOME", t.round(1, 4), 3);
        EDGE.is("from a through d: a thing at b, at d, none to come back by b", t.round(1, 8), -2);
        EDGE.is("k's HOME is there", t.round(0, 0), 0);
        EDGE.is("k to b", t.round(0, 2), 2);
        EDGE.is("k to c", t.round(0, 4), 10);
        EDGE.is("k to d", t.round(0, 8), -2);
    }

    /** What is found stands by itself, whatever was asked ahead: another MAN, HOUSE, SORT, by, another call. */
    private static void oneAfterAnother() {
        EDGE.says(15, "WAY of a MAN from where he is, with what he has");
        // k and m stand at b with the same things, from other HOMES.
        String town = LINE + "door a c 9;shop b t;man k a:s 2;man m c:s 2;man n b:t 1;";
        HallTables t = Feeder.town(town);
        EDGE.is("k goes to b", t.go(0, 1, 0), 0);
        EDGE.is("m goes to b", t.go(1, 1, 0), 0);
        int calls = 3 * 3 * 3 * 3 + 3 * 2 * 3 + 3 * 2 + 3 * 5;
        long[] alone = new long[calls];
        for (int call = 0; call < calls; call++) {
            HallTables fresh = Feeder.town(town);
            fresh.go(0, 1, 0);
            fresh.go(1, 1, 0);
            alone[call] = ask(fresh, call);
        }
        for (int call = 0; call < calls; call++) {
            for (int ahead = 0; ahead < calls; ahead++) {
                EDGE.is("call " + ahead, ask(t, ahead), alone[ahead]);
                EDGE.is("call " + call + " behind call " + ahead, ask(t, call), alone[call]);
            }
        }
        way(t, 0, 0, -1, 0, sums(1, 3, 0), 9);
        way(t, 1, 0, -1, 0, sums(1, 3, 5), 0);
        way(t, 0, 2, -1, 0, sums(1, 4, 5), 20);
        way(t, 1, 2, -1, 0, sums(1, 4, 0), 29);
        EDGE.is("k buys", t.buy(0, 1), 0);
        way(t, 0, 2, -1, 2, sums(1, 4, 2), 21);
        EDGE.is("that is taken back", t.undo(), true);
        way(t, 0, 2, -1, 0, sums(1, 4, 5), 20);
        EDGE.is("another town", Feeder.read(t, town + "door b c 1;"), 0);
        EDGE.is("k goes to b", t.go(0, 1, 0), 0);
        way(t, 0, 2, -1, 0, sums(1, 1, 5), 20);
    }

    private static long ask(HallTables t, int call) {
        int man = call % 3;
        int rest = call / 3;
        if (rest < 27) {
            return t.way(man, rest % 3, rest / 3 % 3 - 1, rest / 9, 1) * 1000L + t.step(man, rest % 3, rest / 3 % 3 - 1, rest / 9, 0);
        }
        rest -= 27;
        if (rest < 6) {
            return t.rid(man, rest % 2, rest / 2, 1);
        }
        rest -= 6;
        if (rest < 2) {
            return t.get(man, rest);
        }
        rest -= 2;
        return rest == 0 ? t.inReach(man) : rest == 1 ? t.most(man, 0) : t.meet(man, (man + 1) % 3, rest % 2);
    }

    /** The first way that is found to a place is not the best: by many DOORS it is less far, with other things it is. */
    private static void longWays() {
        EDGE.says(15, "by 1 the fewest MINUTES, then DOORS");
        StringBuilder text = new StringBuilder("sort s 0;sort t 0;sort u 0;");
        for (char house = 'a'; house <= 'j'; house++) {
            text.append("house ").append(house).append(';');
        }
        for (int far = 1; far < 10; far++) {
            text.append("door a ").append((char) ('a' + far)).append(' ').append(10 * far).append(';');
            text.append("door ").append((char) ('a' + far - 1)).append(' ').append((char) ('a' + far)).append(" 1;");
        }
        HallTables t = Feeder.town(text + "man m a:s 3,t 3,u 3;");
        for (int far = 1; far < 10; far++) {
            EDGE.is("by DOORS to " + far, t.way(0, far, -1, 0, 0), 1);
            EDGE.is("by DOORS to " + far, t.way(0, far, -1, 0, 1), far == 1 ? 1 : 10 * far);
            EDGE.is("by MINUTES to " + far, t.way(0, far, -1, 1, 0), far);
            EDGE.is("by MINUTES to " + far, t.way(0, far, -1, 1, 1), far);
            EDGE.is("by MINUTES to " + far + ", all left", t.step(0, far, -1, 1, far - 1), 10 * far + (far - 1) / 3);
        }
        EDGE.is("with u to the last: one DOOR less", t.way(0, 9, 2, 1, 1), 27);
        EDGE.is("with u to the one ahead of it", t.way(0, 8, 2, 1, 1), 8);
    }

    private static void nothingHappens() {
        EDGE.says(15, "WAY by 0 .. 2: what 0 DOORS, 1 MINUTES, 2 LOSS, 3 how many steps; -2: there is none; NONE: no such ones.");
        HallTables t = Feeder.town(LINE + "shop a s;man m a:s 2;man n c:t 1;");
        EDGE.is("m goes", t.go(0, 1, 0), 0);
        String before = Look.at(t);
        for (int i = 0; i < 3; i++) {
            t.way(0, 2, 0, i, i);
            t.step(0, 2, -1, i, 0);
            t.rid(0, 0, i, 0);
            t.get(0, i);
            t.inReach(i);
            t.most(0, i);
            t.meet(0, 1, i);
            t.round(0, i);
        }
        EDGE.same("nothing happens", Look.at(t), before);
        EDGE.is("the step can be taken back", t.undo(), true);
    }

    public static void main(String[] args) {
        atOnce();
        noSuchOnes();
        fewest();
        order();
        codes();
        buying();
        lawful();
        rid();
        get();
        reach();
        meet();
        round();
        roundsElsewhere();
        oneAfterAnother();
        longWays();
        nothingHappens();
        EDGE.end();
    }
}
