/** Promises 24 to 28: THE DAY, one CALL more, two exchanged; a YEAR; what is owed. */
final class DayTest {
    private static final Due DUE = new Due();

    private DayTest() {
    }

    private static void day() {
        HallTables t = Feeder.town("sort s 1; sort t 1; house a; house b; house c; hall a s 1; door a b 1;"
                + "man x a: s 1; man y b: t 2; man z a; call y c; call x b; call z c; call y c;");
        int[][] s = {{2, 1, 2}, {0, 2, 2}};
        for (int sort = 0; sort < 2; sort++) {
            for (int house = 0; house < 3; house++) {
                DUE.is(24, "carried(" + sort + ", " + house + ")", t.carried(sort, house), s[sort][house]);
            }
        }
        DUE.is(24, "no sort", t.carried(2, 0), -1);
        DUE.is(24, "sort NONE", t.carried(-1, 0), -1);
        DUE.is(24, "no house", t.carried(0, 3), -1);
        DUE.is(24, "house NONE", t.carried(0, -1), -1);
        DUE.is(12, "x goes", t.go(0, 1, 0), 0);
        DUE.is(24, "by the text as told", t.carried(0, 1), 1);
        DUE.is(24, "by the text as told", t.carried(0, 0), 2);
        t = Feeder.town("sort s 1; house a; house b; man x a: s 3;");
        DUE.is(24, "no calls: what is at home", t.carried(0, 0), 3);
        DUE.is(24, "no calls", t.carried(0, 1), 0);
        t = Feeder.town("sort s 1; house a; house b; hall a s 9; hall a s 9; man x a; man y b;"
                + "call x b;".repeat(19) + "call y a;");
        DUE.is(24, "all that is there", t.carried(0, 1), 18);
        DUE.is(24, "all stays", t.carried(0, 0), 18);
        t = Feeder.town("sort s 1; house a; house b; hall a s 9; hall a s 9; hall a s 9; man x a;" + "call x b;".repeat(20));
        DUE.is(24, "one by each call", t.carried(0, 1), 20);
        DUE.is(25, "a 21st call", t.helps(0, 1, 0), 21);
        // What goes by the first call must leave room for what can go by no other.
        t = Feeder.town("sort s 1; house a; house b; house c; house d; man m a: s 1; man n b: s 1; man o c;"
                + "call m c; call n c; call o d; call m d;");
        DUE.is(24, "both come to d", t.carried(0, 3), 2);
    }

    private static void helps() {
        String town = "sort s 1; sort t 1; house a; house b; house c; man x a: s 1; man y b; call y c; call x b;";
        HallTables t = Feeder.town(town);
        int[] due = {1, 0, 0, 1, -1};
        for (int what = 0; what < 5; what++) {
            DUE.is(25, "helps(0, 2, " + what + ")", t.helps(0, 2, what), due[what]);
        }
        DUE.is(25, "what -1", t.helps(0, 2, -1), -1);
        DUE.is(25, "none helps where all is", t.helps(0, 1, 0), -2);
        DUE.is(25, "there is none of it", t.helps(1, 2, 0), -2);
        DUE.is(25, "no sort", t.helps(2, 0, 0), -1);
        DUE.is(25, "no house", t.helps(0, 3, 0), -1);
        DUE.is(25, "NONE ahead of -2", t.helps(1, 2, 4), -1);
        due = new int[] {1, 0, 1, 1};
        t = Feeder.town("sort s 1; house a; house b; house c; man x b; man y a: s 1; call x c;");
        for (int what = 0; what < 4; what++) {
            DUE.is(25, "the man of the lesser number can't", t.helps(0, 2, what), due[what]);
        }
        due = new int[] {2, 1, 0, 2};
        t = Feeder.town("sort s 1; house a; house b; house c; house d; man x b; man y a: s 1; hall d s 1; man z d;"
                + "call y b; call z c;");
        for (int what = 0; what < 4; what++) {
            DUE.is(25, "behind the first call", t.helps(0, 2, what), what == 1 ? 0 : what == 2 ? 1 : due[what]);
        }
        t = Feeder.town("sort s 1; house a; house b; house c; man x b; man y a: s 1; call y b;");
        DUE.is(25, "ahead of all: y to c", t.helps(0, 2, 1), 0);
        DUE.is(25, "y", t.helps(0, 2, 2), 1);
        t = Feeder.town("sort s 1; house a; house b; house c; man x b; man y a; hall a s 1; call y b; call x a; call y b;");
        DUE.is(25, "to c", t.helps(0, 2, 3), 2);
        t = Feeder.town("sort s 1; house a; house b; man x a: s 1;");
        DUE.is(25, "without calls: place 0", t.helps(0, 1, 1), 0);
        DUE.is(25, "x", t.helps(0, 1, 2), 0);
        t = Feeder.town("sort s 1; house a; house b; house c; man x b: s 2; man y a; call x a; call y c;");
        due = new int[] {2, 0, 0, 2};
        for (int what = 0; what < 4; what++) {
            DUE.is(25, "x himself", t.helps(0, 2, what), due[what]);
        }
    }

    /** Behind all: when all that could go by an earlier call more is gone already. */
    private static void helpsLate() {
        HallTables t = Feeder.town("sort s 1; house a; house b; house c; man x b; man y a: s 1; man z c; call y b;");
        DUE.is(25, "b to a: a call more ahead takes nothing", t.helps(0, 0, 0), -2);
        t = Feeder.town("sort s 1; house a; house b; house c; house d; man x b; man w d: s 1; call w b;");
        DUE.is(25, "w to c ahead", t.helps(0, 2, 1), 0);
        DUE.is(25, "w is the second", t.helps(0, 2, 2), 1);
        t = Feeder.town("sort s 1; house a; house b; man y a: s 3; man x b; call x a; call y b;");
        DUE.is(25, "y to b, the first place", t.helps(0, 1, 1), 0);
        // Only x can bring it to a house again, and he has it only behind the second call.
        t = Feeder.town("sort s 1; house a; house b; house c; man y a: s 1; man x b; call x c; call y b; call x a;");
        DUE.is(24, "c without", t.carried(0, 2), 0);
        DUE.is(25, "c with", t.helps(0, 2, 0), 1);
    }

    /** What comes by the CALL more takes the way that another thing had, and that one takes another way. */
    private static void helpsByGivingWay() {
        HallTables t = Feeder.town("sort s 1; house a; house b; house c; house d; man x a; man y c: s 1; man z d: s 1;"
                + "man w d; call w b; call z a; call x b;");
        int[] due = {2, 0, 1, 0};
        for (int what = 0; what < 4; what++) {
            DUE.is(25, "helps(0, 1, " + what + ")", t.helps(0, 1, what), due[what]);
        }
    }

    private static void turned() {
        HallTables t = Feeder.town("sort s 1; sort t 1; house a; house b; house c; man x a: s 1; man y b;"
                + "call y c; call x b;");
        DUE.is(24, "the wrong order", t.carried(0, 2), 0);
        DUE.is(26, "exchanged", t.turned(0, 2), 1);
        DUE.is(26, "not more", t.turned(0, 1), -2);
        DUE.is(26, "none of it", t.turned(1, 2), -2);
        DUE.is(26, "no sort", t.turned(2, 2), -1);
        DUE.is(26, "no house", t.turned(0, -1), -1);
        DUE.is(26, "by the text as told", t.carried(0, 2), 0);
        t = Feeder.town("sort s 1; house a; house b; house c; house d; man x a: s 1; man y b; man z c;"
                + "call z d; call x b; call z d; call y c; call x b; call z d;");
        DUE.is(26, "in order already", t.turned(0, 3), -2);
        t = Feeder.town("sort s 1; house a; house b; house c; house d; man x a: s 1; man y b; man z c;"
                + "call x d; call y c; call x b; call y c;");
        DUE.is(26, "in order already", t.turned(0, 2), -2);
        t = Feeder.town("sort s 1; house a; house b; house c; man x a: s 2; man y b;"
                + "call y c; call y c; call x b; call x b;");
        DUE.is(24, "none", t.carried(0, 2), 0);
        DUE.is(26, "two more by one exchange", t.turned(0, 2), 3);
        t = Feeder.town("sort s 1; house a; house b; house c; man x a: s 1; man y b; call y c; call x b; call x b;");
        DUE.is(26, "the first of alike ones", t.turned(0, 2), 1);
        t = Feeder.town("sort s 1; house a; house b; house c; house d; man x a; man y b; man w d: s 1;"
                + "call w a; call y c; call x b;");
        DUE.is(26, "100 times the lesser place and the other", t.turned(0, 2), 102);
        t = Feeder.town("sort s 1; house a; house b; house c; man x a: s 2; man y b;"
                + "call x c; call y c; call x c; call x b; call y a;");
        DUE.is(24, "two", t.carried(0, 2), 2);
        DUE.is(26, "all that there is", t.turned(0, 2), -2);
        DUE.is(26, "one call", Feeder.town("sort s 1; house a; house b; man x a: s 1; call x b;").turned(0, 0), -2);
    }

    /** What is due here was reckoned by another program. */
    private static void year() {
        String town = "sort s 5; sort t 2; house a; house b; house c; door b a 9; door c b 9; door c b 3;"
                + "man m a: s 2, t 1; man k c: s 1; law ";
        int[][] due = {{0, 1, 2, 7, 2, 0}, {0, 5, 4, 12, 1, 1}, {7, 1, 1, 2, 3, 1}, {7, 3, 3, 12, 1, 1},
            {-3, 2, 3, 7, 2, 1}, {-3, 400, 6, 17, 0, 2}};
        int[][] dearest = {{0, 1, 2, 10, 2, 0}, {0, 5, 4, 15, 1, 1}, {7, 1, 1, 5, 3, 1}, {7, 3, 3, 12, 1, 1},
            {-3, 2, 3, 10, 2, 1}, {-3, 400, 6, 17, 0, 2}};
        for (String law : new String[] {"any", "cheapest", "dearest"}) {
            HallTables t = Feeder.town(town + law + ";");
            for (int[] row : law.equals("dearest") ? dearest : due) {
                for (int what = 0; what < 4; what++) {
                    DUE.is(27, law + " year(" + row[0] + ", " + row[1] + ", " + what + ")",
                            t.year(row[0], row[1], what), row[what + 2]);
                }
            }
            DUE.is(27, "no days", t.year(1, 0, 0), -1);
            DUE.is(27, "401 days", t.year(1, 401, 0), -1);
            DUE.is(27, "-1 days", t.year(1, -1, 0), -1);
            DUE.is(27, "what 4", t.year(1, 1, 4), -1);
            DUE.is(27, "what -1", t.year(1, 1, -1), -1);
            DUE.is(27, "nothing happens", t.count(10) + t.count(7) + t.man(0, 3), 0);
            DUE.is(27, "nothing happens", t.count(11), 4);
        }
        HallTables t = Feeder.town("sort s 5; house a; house b; door a b 1; man m a: s 1;");
        // LOT 2 of 0 and 0 is 0: he goes; of 0 and 6 is 0: from b he goes home.
        DUE.is(27, "one day", t.year(0, 1, 3), 0);
        DUE.is(27, "two days", t.year(0, 2, 3), 1);
        DUE.is(27, "two days", t.year(0, 2, 0), 2);
        t.go(0, 1, 0);
        DUE.is(27, "from the town as it is", t.year(0, 1, 3), 1);
        DUE.is(27, "the loss in it alone", t.year(0, 1, 1), 0);
        t.go(0, 0, -1);
        DUE.is(27, "he has nothing: he can't", t.year(0, 400, 0), 0);
        t = Feeder.town("sort s 5; house a; house b; man m a: s 1;");
        DUE.is(27, "no doors", t.year(12345, 400, 0), 0);
        DUE.is(27, "no doors: at home", t.year(12345, 400, 3), 1);
    }

    private static void owed() {
        String town = "sort s 5; sort t 2; house a; house b; house c; worth c s 1; man m a: s 1, t 1; man n b: t 2; man o b: s 3; law ";
        int[][] due = {{4, 1, 3}, {4, 1, 3}};
        for (int law = 0; law < 2; law++) {
            HallTables t = Feeder.town(town + (law == 0 ? "dearest" : "any") + "; call m b; call m c; call m c;");
            // m pays at b and at c, has nothing for the third; n, the first at b, owes at a and pays; m owes at b: dropped.
            DUE.is(28, "paid", t.rest(0), 3);
            DUE.is(28, "dropped", t.rest(1), 2);
            DUE.is(28, "carried still", t.rest(2), 4);
        }
        HallTables t = Feeder.town("sort s 5; house a; house b; man m a: s 2; man n b: s 1; man o b: s 3; call m b;");
        // m, n, m pay; n has nothing then; o never owes.
        DUE.is(28, "paid", t.rest(0), 3);
        DUE.is(28, "dropped", t.rest(1), 1);
        DUE.is(28, "carried", t.rest(2), 3);
        DUE.is(28, "what 3", t.rest(3), -1);
        DUE.is(28, "what -1", t.rest(-1), -1);
        t = Feeder.town("sort s 5; house a; house b; man m a; hall a s 9; call m b;");
        DUE.is(28, "halls are not taken up", t.rest(1), 1);
        t = Feeder.town("sort s 5; house a; house b; door a b 1; man m a: s 1; man n b; call m b;");
        t.go(0, 1, 0);
        DUE.is(28, "by the text as told", t.rest(0), 1);
        DUE.is(28, "n has nothing", t.rest(1), 1);
        // The order: both calls told come ahead of what is owed by them.
        t = Feeder.town("sort s 5; sort t 1; house a; house b; house c; worth b s 0; man m a: s 1, t 1; man n b: s 1; man o c: s 1;"
                + "law cheapest; call m b; call n c; call m c;");
        DUE.is(28, "paid", t.rest(0), 4);
        DUE.is(28, "dropped", t.rest(1), 3);
        DUE.is(28, "carried", t.rest(2), 0);
        // Three pairs, each to and fro till all their things are left: as much as can ever be owed.
        StringBuilder all = new StringBuilder("sort p 1; sort q 2; sort r 3; sort s 4; sort t 5;");
        for (int i = 0; i < 6; i++) {
            char house = (char) ('a' + i);
            all.append("house ").append(house).append("; man ").append((char) ('g' + i)).append(' ').append(house)
                    .append(": p 3, q 3, r 3, s 3, t 3;");
        }
        for (int i = 0; i < 20; i++) {
            all.append("call ").append("gik".charAt(i % 3)).append(' ').append("bdf".charAt(i % 3)).append(';');
        }
        t = Feeder.town(all.toString());
        DUE.is(28, "all that can be paid", t.rest(0), 90);
        DUE.is(28, "as many are dropped as were told", t.rest(1), 20);
        DUE.is(28, "nothing is carried", t.rest(2), 0);
    }

    public static void main(String[] args) {
        day();
        helps();
        helpsLate();
        helpsByGivingWay();
        turned();
        year();
        owed();
        DUE.end();
    }
}
