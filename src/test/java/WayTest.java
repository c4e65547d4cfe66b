/** Promises 15 to 21 and 23: WAYS, RID, what is in reach, meeting, rounds. */
final class WayTest {
    private static final Due DUE = new Due();
    private static final String TOWN = "sort pie 7; sort jam 2; house inn; house mill; house farm; house kirk;"
            + "door inn mill 4; door mill farm 6; door farm inn 30; worth farm pie 3; shop mill jam;"
            + "man bob inn: pie 1; man eve farm; man old kirk: jam 1; man kim mill: jam 3;";

    private WayTest() {
    }

    /** DOORS, MINUTES, LOSS, and the steps. */
    private static void way(HallTables t, int man, int house, int sort, int by, int[] sums, int... steps) {
        String call = "(" + man + ", " + house + ", " + sort + ", " + by + ", ";
        for (int what = 0; what < 3; what++) {
            DUE.is(15, "way" + call + what + ")", t.way(man, house, sort, by, what), sums[what]);
        }
        DUE.is(15, "way" + call + "3)", t.way(man, house, sort, by, 3), steps.length);
        for (int i = 0; i < steps.length; i++) {
            DUE.is(16, "step" + call + i + ")", t.step(man, house, sort, by, i), steps[i]);
        }
        DUE.is(16, "step" + call + "-1)", t.step(man, house, sort, by, -1), -1);
        DUE.is(16, "step" + call + "behind)", t.step(man, house, sort, by, steps.length), -1);
    }

    private static void noWay(HallTables t, int man, int house, int sort) {
        for (int by = 0; by < 3; by++) {
            for (int what = 0; what < 4; what++) {
                DUE.is(15, "no way to " + house + " with " + sort, t.way(man, house, sort, by, what), -2);
            }
            DUE.is(16, "no step to " + house + " with " + sort, t.step(man, house, sort, by, 0), -1);
        }
    }

    private static int[] sums(int doors, int minutes, int loss) {
        return new int[] {doors, minutes, loss};
    }

    private static void ways() {
        HallTables t = Feeder.town(TOWN);
        way(t, 0, 2, -1, 0, sums(1, 30, 3), 20);
        way(t, 0, 2, -1, 1, sums(2, 11, 9), 10, 101, 21);
        way(t, 0, 2, -1, 2, sums(1, 30, 3), 20);
        way(t, 0, 2, 1, 0, sums(2, 12, 9), 10, 101, 101, 21);
        way(t, 0, 0, 1, 0, sums(2, 9, 7), 10, 101, 9);
        way(t, 0, 0, -1, 2, sums(0, 0, 0));
        way(t, 0, 0, 0, 1, sums(0, 0, 0));
        way(t, 1, 2, -1, 0, sums(0, 0, 0));
        way(t, 3, 0, 1, 1, sums(1, 4, 2), 1);
        noWay(t, 0, 2, 0);
        noWay(t, 0, 3, -1);
        noWay(t, 1, 1, -1);
        noWay(t, 1, 2, 1);
        int[][] wrong = {{4, 0, 0, 0, 0}, {-1, 0, 0, 0, 0}, {0, 4, 0, 0, 0}, {0, -1, 0, 0, 0}, {0, 0, 2, 0, 0},
            {0, 0, -2, 0, 0}, {0, 0, 0, 3, 0}, {0, 0, 0, -1, 0}, {0, 3, 0, 3, 0}, {0, 3, 2, 0, 0}};
        for (int[] w : wrong) {
            DUE.is(15, "no such way", t.way(w[0], w[1], w[2], w[3], w[4]), -1);
            DUE.is(16, "no such step", t.step(w[0], w[1], w[2], w[3], w[4]), -1);
        }
        DUE.is(15, "what 4", t.way(0, 0, 0, 0, 4), -1);
        DUE.is(15, "what -1", t.way(0, 3, 0, 0, -1), -1);
        DUE.is(16, "step of the greatest int", t.step(0, 2, -1, 1, Integer.MAX_VALUE), -1);
        DUE.is(35, "nothing happened", t.count(7), 0);
        DUE.is(12, "he goes", t.go(0, 1, 0), 0);
        way(t, 0, 2, -1, 1, sums(1, 7, 2), 101, 21);
        way(t, 0, 0, -1, 2, sums(1, 4, 0), 9);
        DUE.is(14, "he comes back", t.undo(), true);
        way(t, 0, 2, -1, 1, sums(2, 11, 9), 10, 101, 21);
        DUE.is(4, "another text", Feeder.read(t, TOWN.replace("mill farm 6", "mill farm 7")), 0);
        way(t, 0, 2, -1, 1, sums(2, 12, 9), 10, 101, 21);
    }

    /** Of alike WAYS the first step by step, HOUSES ahead of SORTS, GO ahead of BUY. */
    private static void order() {
        HallTables t = Feeder.town("sort s 1; sort t 1; house a; house b; house c; house d;"
                + "door a c 2; door a b 2; door b d 2; door c d 2; man m a: s 2, t 2; man k d: t 1, s 1;");
        way(t, 0, 3, -1, 0, sums(2, 4, 2), 10, 30);
        way(t, 0, 3, 0, 1, sums(2, 4, 2), 10, 31);
        way(t, 1, 0, -1, 2, sums(2, 4, 2), 10, 1);
        t = Feeder.town("sort s 1; sort t 1; house a; shop a s; shop a t; man m a;");
        way(t, 0, 0, 1, 0, sums(0, 1, 0), 101);
        way(t, 0, 0, 1, 1, sums(0, 1, 0), 101);
        // By 2 neither LOSS nor DOORS tell against buying what comes first.
        way(t, 0, 0, 1, 2, sums(0, 4, 0), 100, 100, 100, 101);
        t = Feeder.town("sort s 5; sort t 0; house a; house b; door a b 9; shop a s; shop a t; man m a: s 1;");
        way(t, 0, 1, -1, 0, sums(1, 9, 5), 10);
        way(t, 0, 1, -1, 2, sums(1, 12, 0), 100, 100, 101, 11);
    }

    private static void lawfulWays() {
        String town = "sort s 5; sort t 3; house a; house b; house c; door a b 1; door b c 1;"
                + "man m a: s 1, t 2; law ";
        HallTables any = Feeder.town(town + "any;");
        way(any, 0, 2, 0, 0, sums(2, 2, 6), 11, 21);
        way(any, 0, 2, 1, 0, sums(2, 2, 8), 10, 21);
        HallTables dearest = Feeder.town(town + "dearest;");
        noWay(dearest, 0, 2, 0);
        way(dearest, 0, 2, 1, 0, sums(2, 2, 8), 10, 21);
        HallTables cheapest = Feeder.town(town + "cheapest;");
        noWay(cheapest, 0, 2, 1);
        way(cheapest, 0, 2, 0, 0, sums(2, 2, 6), 11, 21);
    }

    private static void rid() {
        HallTables t = Feeder.town(TOWN);
        int[][] bob = {{1, 4, 7}, {1, 4, 7}, {1, 30, 3}};
        for (int by = 0; by < 3; by++) {
            for (int what = 0; what < 3; what++) {
                DUE.is(17, "rid(0, 0, " + by + ", " + what + ")", t.rid(0, 0, by, what), bob[by][what]);
                DUE.is(17, "rid of what he has not", t.rid(0, 1, by, what), 0);
                DUE.is(17, "never", t.rid(2, 1, by, what), -2);
            }
        }
        DUE.is(17, "kim of three jams: inn, farm, inn", t.rid(3, 1, 0, 0), 3);
        DUE.is(17, "her minutes", t.rid(3, 1, 0, 1), 4 + 30 + 30);
        DUE.is(17, "by minutes: inn, home, inn, home, inn", t.rid(3, 1, 1, 1), 20);
        DUE.is(17, "by minutes, its doors", t.rid(3, 1, 1, 0), 5);
        DUE.is(17, "what 3", t.rid(0, 0, 0, 3), -1);
        DUE.is(17, "what -1", t.rid(2, 1, 0, -1), -1);
        DUE.is(17, "by 3", t.rid(0, 0, 3, 0), -1);
        DUE.is(17, "sort NONE", t.rid(0, -1, 0, 0), -1);
        DUE.is(17, "no man", t.rid(4, 0, 0, 0), -1);
    }

    private static void getAndReach() {
        HallTables t = Feeder.town(TOWN);
        DUE.is(18, "jam at the mill", t.get(0, 1), 1);
        DUE.is(18, "pie nowhere", t.get(0, 0), -2);
        DUE.is(18, "eve can't go", t.get(1, 1), -2);
        DUE.is(18, "kim has three: out and back", t.get(3, 1), 2);
        DUE.is(18, "sort NONE", t.get(0, -1), -1);
        DUE.is(18, "no man", t.get(4, 1), -1);
        t.go(3, 0, 1);
        t.go(3, 1, -1);
        DUE.is(18, "where she is", t.get(3, 1), 0);
        t.buy(3, 1);
        DUE.is(18, "three again", t.get(3, 1), 2);
        t.undo();
        t.undo();
        t.undo();
        int[] reach = {7, 4, 8, 7, -1};
        for (int man = 0; man < 5; man++) {
            DUE.is(19, "inReach(" + man + ")", t.inReach(man), reach[man]);
        }
        int[] most = {3, 3, 2, -2, -1};
        for (int house = 0; house < 5; house++) {
            DUE.is(20, "most(0, " + house + ")", t.most(0, house), most[house]);
        }
        DUE.is(20, "house NONE", t.most(0, -1), -1);
        DUE.is(20, "no man", t.most(-1, 0), -1);
        DUE.is(20, "nothing", t.most(1, 2), 0);
        DUE.is(20, "eve at the mill", t.most(1, 1), -2);
        DUE.is(21, "bob and eve", t.meet(0, 1, 0), 2);
        DUE.is(21, "their minutes", t.meet(0, 1, 1), 11);
        DUE.is(21, "eve and bob", t.meet(1, 0, 1), 11);
        DUE.is(21, "bob and kim: the first of alike ones", t.meet(0, 3, 0), 0);
        DUE.is(21, "their minutes", t.meet(0, 3, 1), 4);
        DUE.is(21, "bob and old", t.meet(0, 2, 0), -2);
        DUE.is(21, "bob and old", t.meet(0, 2, 1), -2);
        DUE.is(21, "one and the same", t.meet(2, 2, 0), -1);
        DUE.is(21, "no man", t.meet(0, 4, 0), -1);
        DUE.is(21, "what 2", t.meet(0, 2, 2), -1);
        DUE.is(21, "what -1", t.meet(0, 1, -1), -1);
    }

    private static void rounds() {
        int[][] due = {{0, 0, -2, -2, -2, -2, -2, -2}, {0, 0, 10, 10, 18, 18, -2, -2}, {0, 0, 10, 10, 17, 17, 17, 17},
            {0, 0, 10, 10, 16, 16, 16, 16}};
        for (int things = 0; things < 4; things++) {
            HallTables t = Feeder.town("sort s 1; house a; house b; house c; house d; door a b 5; door b c 3; door c a 9;"
                    + "shop a s; man m a: s " + things + "; man k c: s 1; law dearest;");
            for (int set = 0; set < 8; set++) {
                DUE.is(23, things + " things, round(0, " + set + ")", t.round(0, set), due[things][set]);
                DUE.is(23, "and d", t.round(0, set | 8), -2);
            }
            DUE.is(23, "no such house", t.round(0, 16), -1);
            DUE.is(23, "bit 31", t.round(0, Integer.MIN_VALUE), -1);
            DUE.is(23, "-1", t.round(0, -1), -1);
            DUE.is(23, "no man", t.round(2, 0), -1);
        }
        HallTables t = Feeder.town("sort s 1; house a; house b; house c; door a b 5; door b c 3; man m a: s 2;");
        t.go(0, 1, 0);
        DUE.is(23, "from where he is", t.round(0, 0), 5);
        DUE.is(23, "where he is is gone through", t.round(0, 3), 5);
        DUE.is(23, "c and back", t.round(0, 4), -2);
        t.go(0, 2, 0);
        DUE.is(23, "from c with nothing", t.round(0, 4), -2);
    }

    /** As many steps as there can be at one place: nine HOUSES, five SORTS, five to be bought. */
    private static void allSteps() {
        StringBuilder text = new StringBuilder("sort p 9; sort q 9; sort r 9; sort s 9; sort t 0; house a; house b;"
                + "house c; house d; house e; house f; house g; house h; house i; house j;");
        for (char house = 'b'; house <= 'j'; house++) {
            text.append("door a ").append(house).append(" 7;");
        }
        for (char sort = 'p'; sort <= 't'; sort++) {
            text.append("shop a ").append(sort).append(';');
        }
        HallTables t = Feeder.town(text + "man m a: p 1, q 1, r 1, s 1; man n a: p 1, q 1, r 1, s 1, t 1; worth j p 8;");
        way(t, 0, 9, 4, 0, sums(1, 8, 8), 104, 90);
        way(t, 1, 9, -1, 0, sums(1, 7, 8), 90);
        way(t, 1, 9, -1, 2, sums(1, 7, 0), 94);
        way(t, 1, 9, 0, 0, sums(1, 7, 9), 91);
        DUE.is(20, "all that can be had", t.most(0, 0), 15);
        DUE.is(20, "but one", t.most(1, 9), 14);
        DUE.is(19, "all houses", t.inReach(0), 1023);
        DUE.is(21, "at home", t.meet(0, 1, 1), 0);
        t = Feeder.town(text + "man m a;");
        DUE.is(16, "a step asked of a new object: one to leave, one to keep", t.step(0, 9, 4, 1, 1), 104);
    }

    /** Nothing of a town stays when others come in its place. */
    private static void otherTowns() {
        String[] towns = {"sort s 1; house a; house b; door a b 5; shop a s; worth b s 4; hall b s 2; man m a; call m b; law dearest;",
            "sort s 2; house a; house b; house c; door a c 1; man m a: s 1;", "sort s 3; house a; house b; man m a;"};
        HallTables t = new HallTables();
        for (int i = 0; i < 9; i++) {
            int town = i % 3;
            DUE.is(4, "read", Feeder.read(t, towns[town]), 0);
            int[] reach = {3, 5, 1};
            DUE.is(19, "inReach in town " + town, t.inReach(0), reach[town]);
            DUE.is(13, "buy in town " + town, t.buy(0, 0), town == 0 ? 0 : 1);
            DUE.is(14, "undo in town " + town, t.undo(), town == 0);
            DUE.is(7, "worth in town " + town, t.worth(1, 0), new int[] {4, 2, 3}[town]);
            DUE.is(6, "door in town " + town, t.door(0, 1), new int[] {5, 0, 0}[town]);
            DUE.is(8, "table in town " + town, t.table(1, 0), new int[] {2, 0, 0}[town]);
            DUE.is(35, "doors in town " + town, t.count(2), new int[] {1, 1, 0}[town]);
            DUE.is(35, "calls in town " + town, t.count(4), new int[] {1, 0, 0}[town]);
            DUE.is(35, "law in town " + town, t.count(5), new int[] {1, 0, 0}[town]);
            DUE.is(28, "dropped in town " + town, t.rest(1), new int[] {1, 0, 0}[town]);
        }
    }

    public static void main(String[] args) {
        allSteps();
        otherTowns();
        ways();
        order();
        lawfulWays();
        rid();
        getAndReach();
        rounds();
        DUE.end();
    }
}
