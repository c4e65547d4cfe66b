/** The boundaries that the Terms (III) and promises 29 to 32 name: what is SEEN, what FITS, who was there. */
final class EdgeSeenTest {
    private static final Edge EDGE = new Edge();
    private static final int LEAST = Integer.MIN_VALUE;
    private static final int GREATEST = Integer.MAX_VALUE;
    private static final int[] FAR = {-2, LEAST, LEAST + 1, GREATEST, 1 << 16, 1 << 8, 32};
    private static final String ABC = "sort s 5;sort t 2;house a;house b;house c;";

    private EdgeSeenTest() {
    }

    private static void see() {
        EDGE.says(29, "It is SEEN that n (0 .. 9) of a SORT are more on a table: its number; NONE, and nothing happens:"
                + " 30 are there, no such ones.");
        HallTables t = Feeder.town(ABC);
        int[][] none = {{0, 0, -1}, {0, 0, 10}, {3, 0, 1}, {-1, 0, 1}, {0, 2, 1}, {0, -1, 1}, {0, 0, LEAST}, {0, 0, GREATEST}};
        for (int[] a : none) {
            EDGE.is("see(" + a[0] + ", " + a[1] + ", " + a[2] + ")", t.see(a[0], a[1], a[2]), -1);
            EDGE.is("nothing happens", t.count(8), 0);
        }
        for (int far : FAR) {
            EDGE.is("house " + far, t.see(far, 0, 1), -1);
            EDGE.is("sort " + far, t.see(0, far, 1), -1);
        }
        EDGE.is("none of it", t.see(2, 1, 0), 0);
        EDGE.is("nine of it", t.see(0, 0, 9), 1);
        for (int i = 2; i < 30; i++) {
            EDGE.is("its number", t.see(i % 3, i % 2, i % 10), i);
        }
        EDGE.is("a 31st", t.see(0, 0, 0), -1);
        EDGE.is("a 31st, no such one", t.see(3, 0, 0), -1);
        EDGE.is("30 are there", t.count(8), 30);
        EDGE.is("no k 31", t.fits(31), -1);
        EDGE.says(30, "All that is SEEN is forgotten: how many there were.");
        EDGE.is("30", t.forget(), 30);
        EDGE.is("none", t.forget(), 0);
        EDGE.is("none are there", t.count(8), 0);
        EDGE.is("no k 1", t.fits(1), -1);
        EDGE.is("from 0 on", t.see(0, 0, 0), 0);
        EDGE.is("one", t.forget(), 1);
        for (int i = 0; i < 30; i++) {
            EDGE.is("again so many", t.see(0, 0, 0), i);
        }
        EDGE.is("and no more", t.see(0, 0, 0), -1);
        HallTables bare = new HallTables();
        EDGE.is("no town", bare.see(0, 0, 0), -1);
        EDGE.is("nothing to forget", bare.forget(), 0);
    }

    private static void fitsIs(HallTables t, int k, long due) {
        EDGE.is("fits(" + k + ")", t.fits(k), due);
    }

    private static void knownByK() {
        EDGE.says(31, "as KNOWN by k: the first k of those told, 30 at most");
        HallTables t = Feeder.town(ABC + "man m a:s 1;");
        fitsIs(t, 0, 3);
        fitsIs(t, 1, -1);
        fitsIs(t, -1, -1);
        for (int far : FAR) {
            fitsIs(t, far, -1);
        }
        EDGE.is("see", t.see(1, 0, 1), 0);
        fitsIs(t, 0, 3);
        fitsIs(t, 1, 1);
        fitsIs(t, 2, -1);
        fitsIs(t, -1, -1);
        fitsIs(new HallTables(), 0, 1);
        fitsIs(new HallTables(), 1, -1);
        EDGE.says(31, "(of one HOUSE and SORT told more often the last KNOWN one; not told: whatever)");
        EDGE.is("see", t.see(1, 0, 0), 1);
        EDGE.is("see", t.see(2, 0, 1), 2);
        EDGE.is("see", t.see(1, 0, 1), 3);
        EDGE.is("see", t.see(2, 0, 0), 4);
        fitsIs(t, 0, 3);
        fitsIs(t, 1, 1);
        fitsIs(t, 2, 2);
        fitsIs(t, 3, 1);
        fitsIs(t, 4, 0);
        fitsIs(t, 5, 1);
        for (int i = 5; i < 30; i++) {
            EDGE.is("see", t.see(1, 0, i == 29 ? 0 : 9), i);
        }
        fitsIs(t, 29, 0);
        fitsIs(t, 30, 1);
        EDGE.says(31, "so many (0 .. 9) of a SORT are on a table more than in the beginning");
        t = Feeder.town(ABC + "door a b 1;hall b s 4;man m a:s 1;");
        EDGE.is("one more than four", t.see(1, 0, 1), 0);
        EDGE.is("four more than four", t.see(1, 0, 4), 1);
        EDGE.is("none more than four", t.see(1, 0, 0), 2);
        for (int i = 0; i < 2; i++) {
            fitsIs(t, 1, 1);
            fitsIs(t, 2, 0);
            fitsIs(t, 3, 2);
            EDGE.is("m goes, comes", i == 0 ? t.go(0, 1, 0) : t.go(0, 0, -1), 0);
        }
    }

    private static void visits() {
        EDGE.says(31, "each MAN has been at no HOUSE, or at one that is not his HOME, and left one thing there"
                + " that he had in the beginning (LAW looked at)");
        fitsIs(Feeder.town(ABC), 0, 1);
        fitsIs(Feeder.town(ABC + "man m a;"), 0, 1);
        fitsIs(Feeder.town(ABC + "man m a:s 1;"), 0, 3);
        fitsIs(Feeder.town(ABC + "man m a:s 3;"), 0, 3);
        fitsIs(Feeder.town(ABC + "man m a:s 3,t 1;"), 0, 5);
        fitsIs(Feeder.town(ABC + "man m a:s 1;man n a;man o b:t 1;"), 0, 9);
        fitsIs(Feeder.town("sort s 1;house a;man m a:s 3;"), 0, 1);
        fitsIs(Feeder.town("sort s 1;house a;house b;man m a:s 3;"), 0, 2);
        HallTables t = Feeder.town(ABC + "man m a:s 1,t 1;");
        EDGE.is("at his HOME", t.see(0, 0, 1), 0);
        fitsIs(t, 1, 0);
        EDGE.is("none at his HOME", t.see(0, 0, 0), 1);
        fitsIs(t, 2, 5);
        EDGE.is("two at b", t.see(1, 0, 2), 2);
        fitsIs(t, 3, 0);
        EDGE.is("one at b", t.see(1, 0, 1), 3);
        fitsIs(t, 4, 1);
        EDGE.is("one of each at b", t.see(1, 1, 1), 4);
        fitsIs(t, 5, 0);
        String alike = "sort s 4;sort t 4;house a;house b;house c;worth c t 5;man m a:s 1,t 1;law ";
        String[] laws = {"any;", "dearest;", "cheapest;"};
        // By dearest s is left at b and t at c, by cheapest s at both.
        long[] all = {5, 3, 3};
        long[] there = {1, 1, 0};
        for (int law = 0; law < 3; law++) {
            t = Feeder.town(alike + laws[law]);
            fitsIs(t, 0, all[law]);
            EDGE.is("t at c", t.see(2, 1, 1), 0);
            fitsIs(t, 1, there[law]);
            t.forget();
            EDGE.is("s at c", t.see(2, 0, 1), 0);
            fitsIs(t, 1, law == 1 ? 0 : 1);
            t.forget();
            EDGE.is("t at b", t.see(1, 1, 1), 0);
            fitsIs(t, 1, law == 0 ? 1 : 0);
            t.forget();
            EDGE.is("s at b", t.see(1, 0, 1), 0);
            fitsIs(t, 1, 1);
        }
        EDGE.says(31, "how many VISITS of all MEN (who was where, leaving what) make what is KNOWN.");
        t = Feeder.town(ABC + "door a b 1;shop a t;man m a:s 1;");
        EDGE.is("hold", t.hold(0), true);
        EDGE.is("m buys", t.buy(0, 1), 0);
        fitsIs(t, 0, 3);
        EDGE.is("m goes", t.go(0, 1, 0), 0);
        fitsIs(t, 0, 3);
        EDGE.is("m goes home", t.go(0, 0, -1), 0);
        EDGE.is("t at c was not his in the beginning", t.see(2, 1, 1), 0);
        fitsIs(t, 1, 0);
    }

    private static String six() {
        StringBuilder text = new StringBuilder("sort p 1;sort q 2;sort r 3;sort s 4;sort t 5;");
        for (char house = 'a'; house <= 'j'; house++) {
            text.append("house ").append(house).append(';');
        }
        for (char man = 'k'; man <= 'p'; man++) {
            text.append("man m").append(man).append(" a:p 1,q 2,r 3,s 1,t 1;");
        }
        return text.toString();
    }

    private static void many() {
        EDGE.says(31, "FITS, as KNOWN by k; -1: no such k.");
        HallTables t = Feeder.town(six());
        fitsIs(t, 0, 46L * 46 * 46 * 46 * 46 * 46);
        long[] due = {45L * 45 * 45 * 45 * 45 * 45, 6L * 45 * 45 * 45 * 45 * 45, 15L * 45 * 45 * 45 * 45,
            20L * 45 * 45 * 45, 15L * 45 * 45, 6L * 45, 1, 0, 0, 0};
        for (int n = 0; n < 10; n++) {
            EDGE.is("at j", t.see(9, 4, n), n);
            fitsIs(t, n + 1, due[n]);
        }
        t.forget();
        for (int house = 1; house < 7; house++) {
            EDGE.is("one at each", t.see(house, house % 5, 1), house - 1);
        }
        fitsIs(t, 6, 720);
        EDGE.is("none at a seventh", t.see(7, 0, 0), 6);
        fitsIs(t, 7, 720);
        EDGE.is("one at a seventh", t.see(7, 0, 1), 7);
        fitsIs(t, 8, 0);
        t.forget();
        for (int i = 0; i < 30; i++) {
            EDGE.is("all tables of six HOUSES", t.see(1 + i / 5, i % 5, i < 6 ? 1 : 0), i);
        }
        fitsIs(t, 30, 720);
        fitsIs(t, 29, 720);
        t.forget();
        EDGE.is("one", t.see(1, 0, 1), 0);
        EDGE.is("two", t.see(2, 1, 2), 1);
        EDGE.is("three", t.see(3, 2, 3), 2);
        fitsIs(t, 1, 6L * 45 * 45 * 45 * 45 * 45);
        fitsIs(t, 2, 6L * 10 * 44 * 44 * 44);
        fitsIs(t, 3, 60);
        EDGE.is("none of the first", t.see(1, 0, 0), 3);
        fitsIs(t, 4, 20L * 3 * 43);
        EDGE.is("two of the first: seven in all", t.see(1, 0, 2), 4);
        fitsIs(t, 5, 0);
        EDGE.is("two of the third: six in all", t.see(3, 2, 2), 5);
        fitsIs(t, 6, 90);
        t.forget();
        for (int i = 0; i < 30; i++) {
            EDGE.is("nine on each", t.see(1 + i / 5, i % 5, 9), i);
        }
        fitsIs(t, 30, 0);
        EDGE.is("no one there", t.visitors(1, 30, false), 0);
        EDGE.is("no one surely", t.visitors(1, 30, true), 0);
    }

    private static void visitorsIs(HallTables t, int k, int[] maybe, int[] surely) {
        for (int house = 0; house < maybe.length; house++) {
            EDGE.is("maybe at " + house + " by " + k, t.visitors(house, k, false), maybe[house]);
            EDGE.is("surely at " + house + " by " + k, t.visitors(house, k, true), surely[house]);
        }
    }

    private static void visitors() {
        EDGE.says(32, "MAYBE at a HOUSE: MEN who were there in some of these; SURELY: in all.");
        HallTables t = Feeder.town(ABC + "man m a:s 1;man n b:s 1;man o c;");
        visitorsIs(t, 0, new int[] {2, 1, 3}, new int[] {0, 0, 0});
        EDGE.is("one at c", t.see(2, 0, 1), 0);
        visitorsIs(t, 1, new int[] {2, 1, 3}, new int[] {0, 0, 0});
        EDGE.is("none at a", t.see(0, 0, 0), 1);
        visitorsIs(t, 2, new int[] {0, 1, 3}, new int[] {0, 0, 0});
        EDGE.is("none at b", t.see(1, 0, 0), 2);
        visitorsIs(t, 3, new int[] {0, 0, 3}, new int[] {0, 0, 0});
        EDGE.is("two at c", t.see(2, 0, 2), 3);
        visitorsIs(t, 4, new int[] {0, 0, 3}, new int[] {0, 0, 3});
        EDGE.is("one at b", t.see(1, 0, 1), 4);
        EDGE.is("one at c", t.see(2, 0, 1), 5);
        visitorsIs(t, 6, new int[] {0, 1, 2}, new int[] {0, 1, 2});
        EDGE.is("none at c", t.see(2, 0, 0), 6);
        visitorsIs(t, 7, new int[] {0, 1, 0}, new int[] {0, 1, 0});
        EDGE.says(32, "(surely: SURELY; 0 if nothing FITS)");
        EDGE.is("three at c", t.see(2, 0, 3), 7);
        fitsIs(t, 8, 0);
        visitorsIs(t, 8, new int[] {0, 0, 0}, new int[] {0, 0, 0});
        fitsIs(t, 5, 0);
        visitorsIs(t, 5, new int[] {0, 0, 0}, new int[] {0, 0, 0});
        EDGE.says(32, "as KNOWN by k: MEN (bits); NONE: no such ones.");
        int[][] none = {{3, 0}, {-1, 0}, {0, 9}, {0, -1}, {3, 9}};
        for (int[] a : none) {
            EDGE.is("visitors(" + a[0] + ", " + a[1] + ")", t.visitors(a[0], a[1], false), -1);
            EDGE.is("visitors(" + a[0] + ", " + a[1] + ") surely", t.visitors(a[0], a[1], true), -1);
        }
        EDGE.is("k 8", t.visitors(2, 8, true), 0);
        for (int far : FAR) {
            EDGE.is("house " + far, t.visitors(far, 0, true), -1);
            EDGE.is("k " + far, t.visitors(0, far, false), -1);
        }
        EDGE.is("no town", new HallTables().visitors(0, 0, false), -1);
        t = Feeder.town(six());
        EDGE.is("all of six at j", t.visitors(9, 0, false), 63);
        EDGE.is("none of six at their HOME", t.visitors(0, 0, false), 0);
        EDGE.is("six at j", t.see(9, 0, 6), 0);
        EDGE.is("surely all of six", t.visitors(9, 1, true), 63);
        EDGE.is("none at i", t.visitors(8, 1, false), 0);
    }

    public static void main(String[] args) {
        see();
        knownByK();
        visits();
        many();
        visitors();
        EDGE.end();
    }
}
