/** The boundaries that the Terms (III) and promises 24 to 28 name: THE DAY, HELPS, TURNED, a YEAR, what is owed. */
final class EdgeDayTest {
    private static final Edge EDGE = new Edge();
    private static final int LEAST = Integer.MIN_VALUE;
    private static final int GREATEST = Integer.MAX_VALUE;
    private static final int[] FAR = {-2, LEAST, LEAST + 1, GREATEST, 1 << 16, 1 << 8, 32};
    private static final String ABC = "sort s 1;sort t 1;house a;house b;house c;";
    private static final int[] SEEDS = {0, 1, 2, 22, 23, 24, -1, -2, -23, LEAST, LEAST + 1, GREATEST, GREATEST - 1, 12345,
        1103515245, -1103515245, 65536, 32768, 32767, -32768};

    private EdgeDayTest() {
    }

    private static void carriedIs(String text, int sort, int... due) {
        HallTables t = Feeder.town(text);
        for (int house = 0; house < due.length; house++) {
            EDGE.is("carried(" + sort + ", " + house + ") of " + text, t.carried(sort, house), due[house]);
        }
    }

    private static void carried() {
        EDGE.says(24, "all that lies on the table of his HOME he may take with him");
        carriedIs(ABC + "hall a s 2;man x a;call x b;call x b;", 0, 2, 2, 0);
        carriedIs(ABC + "man y a:s 1;man x a;call x b;", 0, 1, 1, 0);
        carriedIs(ABC + "man x a:s 1;man y b;call x b;call y c;", 0, 1, 1, 1);
        carriedIs(ABC + "man x a:s 1;man y b;call y c;call x b;", 0, 1, 1, 0);
        carriedIs(ABC + "man x a:s 1;man y b;call x b;call y a;", 0, 1, 1, 0);
        carriedIs(ABC + "man x a:s 1;man y b;call x b;call y a;call x c;", 0, 1, 1, 1);
        EDGE.says(24, "(by what way does not matter)");
        carriedIs(ABC + "door a b 1;door b c 1;hall b s 5;man x a;call x c;", 0, 0, 5, 0);
        carriedIs(ABC + "man x a:s 1;call x c;", 0, 1, 0, 1);
        EDGE.says(24, "if of each CALL one of it may be the thing left (or something else is)");
        for (int calls = 0; calls < 6; calls++) {
            carriedIs(ABC + "man x a:s 3;" + "call x b;".repeat(calls), 0, 3, Math.min(calls, 3), 0);
        }
        for (int calls = 11; calls < 14; calls++) {
            carriedIs(ABC + "hall a s 9;man x a:s 3;" + "call x b;".repeat(calls), 0, 12, Math.min(calls, 12), 0);
        }
        carriedIs(ABC + "hall a s 9;hall a s 9;hall a s 9;man x a:s 3;" + "call x b;".repeat(20), 0, 30, 20, 0);
        EDGE.says(24, "all of it that a HALL or a MAN (at his HOME) has at first going along");
        carriedIs(ABC + "hall a s 4;hall c s 5;man x a:s 3;man z a:s 1,t 2;", 0, 8, 0, 5);
        carriedIs(ABC + "hall a s 4;hall c s 5;man x a:s 3;man z a:s 1,t 2;", 1, 2, 0, 0);
        carriedIs(ABC + "man x a:t 3;call x b;", 0, 0, 0, 0);
        carriedIs(ABC, 0, 0, 0, 0);
        EDGE.says(24, "CARRIED; NONE: no such ones. (By the text as told.)");
        HallTables t = Feeder.town(ABC + "door a b 1;shop a s;man x a:s 2;call x c;");
        EDGE.is("hold", t.hold(0), true);
        for (int i = 0; i < 3; i++) {
            EDGE.is("at a", t.carried(0, 0), 2);
            EDGE.is("at b", t.carried(0, 1), 0);
            EDGE.is("at c", t.carried(0, 2), 1);
            EDGE.is("he goes, buys, goes on from the SLOT", i == 0 ? t.go(0, 1, 0) : i == 1 ? t.go(0, 0, -1) : t.buy(0, 0), 0);
        }
        EDGE.is("with what he bought", t.carried(0, 0), 2);
        EDGE.is("sort 2", t.carried(2, 0), -1);
        EDGE.is("sort -1", t.carried(-1, 0), -1);
        EDGE.is("house 3", t.carried(0, 3), -1);
        EDGE.is("house -1", t.carried(0, -1), -1);
        for (int far : FAR) {
            EDGE.is("sort " + far, t.carried(far, 0), -1);
            EDGE.is("house " + far, t.carried(0, far), -1);
        }
        EDGE.is("no such town", new HallTables().carried(0, 0), -1);
    }

    /** A thing that could go by another CALL must leave the one by which alone another thing can go. */
    private static void givingWay() {
        EDGE.says(24, "CARRIED of a SORT to a HOUSE: how many of it, at most, can lie there in the end");
        String five = "sort s 1;house a;house b;house c;house d;house e;man x a:s 1;man y b:s 1;man z c;man w e;";
        carriedIs(five + "call x e;call y c;call x c;call z d;call w d;", 0, 1, 1, 2, 2, 1);
        carriedIs(five + "call x c;call y c;call x e;call z d;call w d;", 0, 1, 1, 2, 2, 1);
        carriedIs(five + "call x e;call y c;call x c;call z d;call z d;", 0, 1, 1, 2, 2, 1);
        carriedIs(five + "call y c;call x e;call x c;call w d;call z d;", 0, 1, 1, 2, 2, 1);
        carriedIs(five + "call y c;call x c;call z d;", 0, 1, 1, 2, 1, 0);
        EDGE.says(25, "that with which CARRIED is greatest");
        String six = "sort s 1;house a;house b;house c;house d;house e;house f;man x a;man y b;man z c:s 1;man w d;man v e:s 1;";
        helpsIs(six + "call x b;call z d;call z b;call y f;call w f;", 5, 2, 0, 4, 0);
        helpsIs(six + "call x b;call z b;call y f;call w f;", 5, 2, 0, 4, 3);
        helpsIs(six + "call z d;call z b;call x b;call y f;call w f;", 5, 2, 0, 4, 0);
        String four = "sort s 1;house a;house b;house c;house d;man x a;man y b;man v d:s 1;";
        helpsIs(four + "call y c;call x b;", 2, 1, 0, 2, 1);
        helpsIs(four + "call x b;call y c;", 2, 1, 0, 2, 0);
        helpsIs(four + "call y a;call y c;", 2, 1, 0, 2, 1);
        helpsIs(four + "call y c;call y a;", 2, 1, 0, 2, 1);
    }

    private static void helpsIs(String text, int house, int... due) {
        HallTables t = Feeder.town(text);
        for (int what = 0; what < 4; what++) {
            EDGE.is("helps(0, " + house + ", " + what + ") of " + text, t.helps(0, house, what), due.length == 1 ? due[0] : due[what]);
        }
        EDGE.is("what 4 of " + text, t.helps(0, house, 4), -1);
        EDGE.is("what -1 of " + text, t.helps(0, house, -1), -1);
    }

    private static void helps() {
        EDGE.says(25, "told if that is more than without: of alike ones the first by place, then MAN, then HOUSE");
        helpsIs(ABC + "man x a:s 1;", 1, 1, 0, 0, 1);
        helpsIs(ABC + "man x a:s 1;", 2, 1, 0, 0, 2);
        helpsIs(ABC + "man x a:s 1;", 0, -2);
        helpsIs(ABC + "man x a;", 1, -2);
        helpsIs(ABC + "man x a:t 3;", 1, -2);
        helpsIs(ABC + "hall a s 9;", 1, -2);
        helpsIs(ABC + "hall a s 9;man x c;", 1, -2);
        helpsIs(ABC + "hall a s 9;man x a;", 1, 1, 0, 0, 1);
        helpsIs(ABC + "man x a:s 1;call x b;", 1, -2);
        helpsIs(ABC + "man x a:s 2;call x b;", 1, 2, 0, 0, 1);
        helpsIs(ABC + "man x a:s 2;call x b;call x b;", 1, -2);
        helpsIs(ABC + "man z c;man x a;man y a:s 1;", 1, 1, 0, 1, 1);
        helpsIs(ABC + "man z c;man x a;man y a:s 1;man w b:s 1;", 2, 1, 0, 1, 2);
        helpsIs(ABC + "man x a:s 1;man y b;call y c;", 2, 1, 0, 0, 1);
        helpsIs(ABC + "man x a:s 1;man y b:s 1;call y c;", 2, 2, 0, 0, 2);
        helpsIs(ABC + "man x a:s 1;man y b:s 1;call y c;call y c;", 2, 2, 0, 0, 1);
        helpsIs(ABC + "man y b;man x a:s 1;call y c;", 2, 1, 0, 1, 1);
        helpsIs(ABC + "man y b;man x a:s 1;call y c;call x b;", 2, 1, 0, 1, 1);
        EDGE.says(25, "one CALL more (a MAN, a HOUSE not his HOME) ahead of the i-th CALL, or behind all");
        helpsIs("sort s 1;house a;house b;hall a s 9;hall a s 9;hall a s 9;man x a;" + "call x b;".repeat(20), 1, 21, 0, 0, 1);
        helpsIs("sort s 1;house a;house b;hall a s 9;hall a s 9;hall a s 2;man x a;" + "call x b;".repeat(20), 1, -2);
        helpsIs("sort s 1;house a;house b;hall a s 9;hall a s 9;hall a s 3;man x a;" + "call x b;".repeat(20), 1, 21, 0, 0, 1);
        EDGE.says(25, "what 0 CARRIED with it, 1 its place, 2 the MAN, 3 the HOUSE; -2: none does; NONE: no such ones.");
        HallTables t = Feeder.town(ABC + "man x a;");
        int[][] none = {{2, 0, 0}, {-1, 0, 0}, {0, 3, 0}, {0, -1, 0}, {0, 0, 4}, {0, 0, -1}};
        for (int[] a : none) {
            EDGE.is("no such one", t.helps(a[0], a[1], a[2]), -1);
        }
        for (int far : FAR) {
            EDGE.is("sort " + far, t.helps(far, 0, 0), -1);
            EDGE.is("house " + far, t.helps(0, far, 0), -1);
            EDGE.is("what " + far, t.helps(0, 0, far), -1);
        }
        EDGE.is("without MEN", Feeder.town(ABC).helps(0, 0, 0), -2);
    }

    private static void turnedIs(String text, int house, int due) {
        EDGE.is("turned(0, " + house + ") of " + text, Feeder.town(text).turned(0, house), due);
    }

    private static void turned() {
        String men = ABC + "man x a:s 1;man y b;";
        EDGE.says(26, "told if that is more than without: of alike ones the first by the lesser place, then the other one");
        turnedIs(men, 2, -2);
        turnedIs(men + "call y c;", 2, -2);
        turnedIs(men + "call y c;call x b;", 2, 1);
        turnedIs(men + "call x b;call y c;", 2, -2);
        turnedIs(men + "call y c;call y c;", 2, -2);
        turnedIs(men + "call y c;call x b;", 1, -2);
        turnedIs(men + "call y c;call y c;call x b;", 2, 2);
        turnedIs(men + "call y c;call x b;call x b;", 2, 1);
        turnedIs(men + "call y a;call y c;call x b;", 2, 2);
        turnedIs(men + "call y c;call y a;call x b;", 2, 2);
        turnedIs(ABC + "man x a:s 2;man y b;call y c;call y c;call x b;call x b;", 2, 3);
        EDGE.says(26, "TURNED: 100 * the lesser place + the other one; -2: none is more; NONE: no such ones.");
        turnedIs(men + "call y c;".repeat(19) + "call x b;", 2, 19);
        turnedIs(men + "call x c;".repeat(9) + "call y c;call x b;", 2, -2);
        turnedIs(men + "call y a;".repeat(18) + "call y c;call x b;", 2, 19);
        String chain = "sort s 1;house a;house b;house c;house d;house e;man x a;man y b;man w d:s 1;man z e;";
        turnedIs(chain + "call z a;".repeat(17) + "call w a;call y c;call x b;", 2, 1819);
        turnedIs(chain + "call z a;".repeat(8) + "call w a;call y c;call x b;", 2, 910);
        turnedIs(chain + "call w a;call y c;call x b;" + "call z a;".repeat(17), 2, 102);
        turnedIs(chain + "call w a;call y c;" + "call z a;".repeat(17) + "call x b;", 2, 119);
        turnedIs(chain + "call w a;call x b;call y c;" + "call z a;".repeat(17), 2, -2);
        HallTables t = Feeder.town(men + "call y c;call x b;");
        EDGE.is("sort 2", t.turned(2, 2), -1);
        EDGE.is("sort -1", t.turned(-1, 2), -1);
        EDGE.is("house 3", t.turned(0, 3), -1);
        EDGE.is("house -1", t.turned(0, -1), -1);
        EDGE.is("none of it", t.turned(1, 2), -2);
        EDGE.is("the CALLS stay as told", t.carried(0, 2), 0);
        for (int far : FAR) {
            EDGE.is("sort " + far, t.turned(far, 2), -1);
            EDGE.is("house " + far, t.turned(0, far), -1);
        }
    }

    private static void lots() {
        EDGE.says(27, "LOT (one more than there are) of which 6 * the day + his number: the last one: he stays;"
                + " else he GOES there, if he can");
        HallTables one = Feeder.town("sort s 7;house a;house b;door a b 1;man m a:s 3;");
        HallTables nothing = Feeder.town("sort s 7;house a;house b;door a b 1;man m a;");
        HallTables shut = Feeder.town("sort s 7;house a;house b;man m a:s 3;");
        for (int seed : SEEDS) {
            int goes = Model.lot(2, seed, 0) == 0 ? 1 : 0;
            yearIs(one, seed, 1, goes, 7 * goes, 3 - goes, 1 - goes);
            yearIs(nothing, seed, 1, 0, 0, 0, 1);
            yearIs(nothing, seed, 400, 0, 0, 0, 1);
            yearIs(shut, seed, 400, 0, 0, 3, 1);
        }
        EDGE.says(27, "(32 bits that wrap)");
        for (int seed : SEEDS) {
            for (int days : new int[] {2, 3, 6, 7, 50, 399, 400}) {
                goAndCome(one, seed, days);
            }
        }
        EDGE.says(27, "of the DOORS where he is, by the numbers of the HOUSES behind them");
        HallTables three = Feeder.town("sort s 7;house b;house a;house c;house d;door a d 1;door a b 9;door b a 2;door a c 1;"
                + "worth b s 1;worth c s 2;worth d s 4;man m a:s 3;");
        for (int seed : SEEDS) {
            int lot = Model.lot(4, seed, 0);
            int goes = lot < 3 ? 1 : 0;
            yearIs(three, seed, 1, goes, goes << lot, 3 - goes, 1 - goes);
        }
        EDGE.says(27, "each day MAN by MAN");
        StringBuilder six = new StringBuilder("sort s 7;sort z 0;house a;house b;door a b 1;");
        for (int man = 0; man < 6; man++) {
            six.append("man m").append((char) ('a' + man)).append(" a:s ").append(man == 0 ? 0 : 1).append(",z ")
                    .append(man == 5 ? 1 : 0).append(';');
        }
        HallTables all = Feeder.town(six.toString());
        for (int seed : SEEDS) {
            int go = 0;
            for (int man = 1; man < 6; man++) {
                go += Model.lot(2, seed, man) == 0 ? 1 : 0;
            }
            int last = Model.lot(2, seed, 5) == 0 ? 7 : 0;
            yearIs(all, seed, 1, go, 7 * go - last, 6 - go, 6 - go);
        }
    }

    private static void lotOfTen() {
        EDGE.says(27, "h becomes (h and it, each bit of which is in just one) times 1103515245 and 12345 more,"
                + " then h and h moved 15 bits down (zeros come in), likewise");
        // LOT 10 of these SEEDS and 0, reckoned by another program: nine HOUSES, worth 1 to 9 there, the tenth: he stays.
        int[][] ten = {{0, 6}, {1, 3}, {2, 2}, {23, 1}, {-1, 3}, {-23, 7}, {LEAST, 9}, {GREATEST, 4},
            {65535, 6}, {65536, 9}, {1103515245, 7}, {12345, 5}, {77, 0}, {-1000000007, 2}};
        StringBuilder nine = new StringBuilder("sort s 99;house a;");
        for (int house = 1; house < 10; house++) {
            char name = (char) ('a' + house);
            nine.append("house ").append(name).append(";door a ").append(name).append(" 1;worth ").append(name).append(" s ")
                    .append(house).append(';');
        }
        HallTables wide = Feeder.town(nine + "man m a:s 3;");
        for (int[] row : ten) {
            int goes = row[1] < 9 ? 1 : 0;
            yearIs(wide, row[0], 1, goes, goes * (row[1] + 1), 3 - goes, 1 - goes);
        }
    }

    private static void yearIs(HallTables t, int seed, int days, int... due) {
        for (int what = 0; what < 4; what++) {
            EDGE.is("year(" + seed + ", " + days + ", " + what + ")", t.year(seed, days, what), due[what]);
        }
        EDGE.is("what 4", t.year(seed, days, 4), -1);
        EDGE.is("what -1", t.year(seed, days, -1), -1);
    }

    /** One MAN between his HOME and one other HOUSE. */
    private static void goAndCome(HallTables t, int seed, int days) {
        boolean home = true;
        int things = 3;
        int gone = 0;
        for (int day = 0; day < days; day++) {
            boolean goes = Model.lot(2, seed, 6 * day) == 0 && (!home || things > 0);
            things -= goes && home ? 1 : 0;
            gone += goes ? 1 : 0;
            home ^= goes;
        }
        yearIs(t, seed, days, gone, 7 * (3 - things), things, home ? 1 : 0);
    }

    private static void year() {
        EDGE.says(27, "A YEAR (nothing happens): what 0 how many times one GOES, 1 LOSS of all in it,"
                + " 2 how many things are carried then, 3 how many MEN are at HOME then; NONE: no such ones.");
        HallTables t = Feeder.town("sort s 7;house a;house b;door a b 1;man m a:s 3;");
        String before = Look.at(t);
        int[][] none = {{0, 0}, {401, 0}, {-1, 0}, {LEAST, 0}, {GREATEST, 0}, {0, 4}, {1, 4}, {1, -1}, {400, 4}, {1, LEAST},
            {1, GREATEST}};
        for (int[] a : none) {
            for (int seed : SEEDS) {
                EDGE.is("year(" + seed + ", " + a[0] + ", " + a[1] + ")", t.year(seed, a[0], a[1]), -1);
            }
        }
        EDGE.is("one day", t.year(0, 1, 2) >= 0, true);
        EDGE.is("400 days", t.year(0, 400, 2) >= 0, true);
        EDGE.same("nothing happens", Look.at(t), before);
        EDGE.is("nothing to take back", t.undo(), false);
        for (int what = 0; what < 4; what++) {
            EDGE.is("of no one", new HallTables().year(0, 400, what), 0);
            EDGE.is("of no one, 401 days", new HallTables().year(0, 401, what), -1);
        }
        EDGE.says(27, "from the town as it is");
        EDGE.is("m goes", t.go(0, 1, 0), 0);
        for (int seed : SEEDS) {
            int goes = Model.lot(2, seed, 0) == 0 ? 1 : 0;
            yearIs(t, seed, 1, goes, 0, 2, goes);
        }
        EDGE.is("his LOSS ahead of it", t.man(0, 4), 7);
        EDGE.says(27, "leaving by LAW (by any as by cheapest)");
        String town = "sort s 5;sort t 2;sort u 2;house a;house b;door a b 1;man m a:s 1,t 1,u 1;law ";
        for (int seed : SEEDS) {
            int goes = Model.lot(2, seed, 0) == 0 ? 1 : 0;
            yearIs(Feeder.town(town + "any;"), seed, 1, goes, 2 * goes, 3 - goes, 1 - goes);
            yearIs(Feeder.town(town + "cheapest;"), seed, 1, goes, 2 * goes, 3 - goes, 1 - goes);
            yearIs(Feeder.town(town + "dearest;"), seed, 1, goes, 5 * goes, 3 - goes, 1 - goes);
        }
    }

    private static void restIs(String text, int paid, int dropped, int carried) {
        HallTables t = Feeder.town(text);
        EDGE.is("paid of " + text, t.rest(0), paid);
        EDGE.is("dropped of " + text, t.rest(1), dropped);
        EDGE.is("carried of " + text, t.rest(2), carried);
        EDGE.is("what 3 of " + text, t.rest(3), -1);
        EDGE.is("what -1 of " + text, t.rest(-1), -1);
    }

    private static void rest() {
        EDGE.says(28, "one who has nothing pays none, it is dropped");
        restIs(ABC, 0, 0, 0);
        restIs(ABC + "man x a:s 2;", 0, 0, 2);
        restIs(ABC + "man x a;call x b;", 0, 1, 0);
        restIs(ABC + "man x a:s 1;call x b;", 1, 0, 0);
        restIs(ABC + "man x a:s 1;call x b;call x c;", 1, 1, 0);
        restIs(ABC + "man x a;" + "call x b;".repeat(20), 0, 20, 0);
        restIs(ABC + "man x a:s 3;" + "call x b;".repeat(20), 3, 17, 0);
        EDGE.says(28, "the first MAN (by number) whose HOME that HOUSE is owes a call at his HOME, behind all others"
                + " (none if no one lives there)");
        restIs(ABC + "man x a:s 2;call x b;", 1, 0, 1);
        restIs(ABC + "man x a:s 2;man y c:s 1;call x b;", 1, 0, 2);
        restIs(ABC + "man x a:s 1;man y b;call x b;", 1, 1, 0);
        restIs(ABC + "man x a:s 1;man y b:s 1;call x b;", 2, 1, 0);
        restIs(ABC + "man x a:s 2;man y b:s 1;call x b;", 3, 1, 0);
        restIs(ABC + "man x a:s 1;man y b;man z b:s 3;call x b;", 1, 1, 3);
        restIs(ABC + "man x a:s 1;man z b:s 3;man y b;call x b;", 2, 1, 2);
        // y pays at a, where w is the first: w owes, not x who was called.
        restIs(ABC + "man w a;man x a:s 3;man y b:s 3;call x b;", 2, 1, 4);
        restIs(ABC + "man x a:s 3;man w a;man y b:s 3;call x b;", 6, 1, 0);
        // x's one thing goes to c by the CALL told second, ahead of what it owes to b for the first.
        restIs(ABC + "man y b:s 1;man x a:s 1;man z c:s 3;call y a;call x c;", 3, 2, 2);
        EDGE.says(28, "halls are not taken up again");
        restIs(ABC + "hall a s 9;man x a;call x b;", 0, 1, 0);
        restIs(ABC + "man x a:s 1;man y b;call x b;call y c;", 1, 2, 0);
        EDGE.says(28, "REST (by the text as told): what 0 how many calls are paid, 1 how many are dropped,"
                + " 2 how many things are carried still. NONE for others.");
        HallTables t = Feeder.town(ABC + "door a b 1;shop a s;man x a:s 1;call x b;call x c;");
        String before = "";
        for (int i = 0; i < 3; i++) {
            String rest = t.rest(0) + " " + t.rest(1) + " " + t.rest(2);
            EDGE.same("as told", rest, i == 0 ? rest : before);
            before = rest;
            EDGE.is("he goes, comes, buys", i == 0 ? t.go(0, 1, 0) : i == 1 ? t.go(0, 0, -1) : t.buy(0, 0), 0);
        }
        EDGE.is("nothing is paid by it", t.count(10), 1);
        for (int far : FAR) {
            EDGE.is("what " + far, t.rest(far), -1);
        }
        StringBuilder all = new StringBuilder("sort p 1;sort q 2;sort r 3;sort s 4;sort t 5;");
        for (int man = 0; man < 6; man++) {
            char house = (char) ('a' + man);
            all.append("house ").append(house).append(";man m").append(house).append(' ').append(house).append(":p 3,q 3,r 3,s 3,t 3;");
        }
        restIs(all + "call ma b;call mc d;call me f;", 90, 3, 0);
        restIs(all + "call ma b;", 30, 1, 60);
        restIs(all.toString(), 0, 0, 90);
    }

    public static void main(String[] args) {
        carried();
        givingWay();
        helps();
        turned();
        lots();
        lotOfTen();
        year();
        rest();
        EDGE.end();
    }
}
