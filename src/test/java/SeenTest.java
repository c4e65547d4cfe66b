/** Promises 29 to 32: what is SEEN, and who was where. */
final class SeenTest {
    private static final Due DUE = new Due();
    private static final String TOWN = "sort s 5; sort t 2; house a; house b; house c; worth c s 1;"
            + "man m a: s 1, t 1; man n b: t 2; man o c; hall b t 4; law ";

    private SeenTest() {
    }

    private static void seen() {
        HallTables t = Feeder.town(TOWN + "any;");
        DUE.is(29, "no house", t.see(3, 0, 1), -1);
        DUE.is(29, "house NONE", t.see(-1, 0, 1), -1);
        DUE.is(29, "no sort", t.see(0, 2, 1), -1);
        DUE.is(29, "n -1", t.see(0, 0, -1), -1);
        DUE.is(29, "n 10", t.see(0, 0, 10), -1);
        DUE.is(35, "nothing happens", t.count(8), 0);
        DUE.is(30, "none", t.forget(), 0);
        for (int i = 0; i < 30; i++) {
            DUE.is(29, "see", t.see(i % 3, i % 2, i % 10), i);
        }
        DUE.is(29, "a 31st", t.see(0, 0, 0), -1);
        DUE.is(35, "30 there", t.count(8), 30);
        DUE.is(31, "31", t.fits(31), -1);
        DUE.is(31, "30", t.fits(30), 0);
        DUE.is(30, "forget", t.forget(), 30);
        DUE.is(35, "none", t.count(8), 0);
        DUE.is(29, "from 0 on again", t.see(0, 0, 9), 0);
    }

    private static void fits() {
        HallTables t = Feeder.town(TOWN + "any;");
        // m: nowhere, s or t at b or c; n: nowhere, t at a or c; o has nothing.
        DUE.is(31, "whatever", t.fits(0), 15);
        DUE.is(31, "k -1", t.fits(-1), -1);
        DUE.is(31, "k 1", t.fits(1), -1);
        DUE.is(29, "one t at c", t.see(2, 1, 1), 0);
        DUE.is(31, "m or n", t.fits(1), 2 + 4);
        DUE.is(31, "whatever still", t.fits(0), 15);
        DUE.is(32, "maybe at c: m leaves t while n is elsewhere", t.visitors(2, 1, false), 3);
        DUE.is(32, "surely at c", t.visitors(2, 1, true), 0);
        DUE.is(32, "maybe at b", t.visitors(1, 1, false), 1);
        DUE.is(32, "maybe at a", t.visitors(0, 1, false), 2);
        DUE.is(32, "k 2", t.visitors(0, 2, false), -1);
        DUE.is(32, "k -1", t.visitors(0, -1, true), -1);
        DUE.is(32, "no house", t.visitors(3, 0, false), -1);
        DUE.is(32, "house NONE", t.visitors(-1, 0, false), -1);
        t.see(2, 0, 1);
        DUE.is(31, "m left s there, n t", t.fits(2), 1);
        DUE.is(32, "surely at c", t.visitors(2, 2, true), 3);
        DUE.is(32, "maybe at a", t.visitors(0, 2, false), 0);
        t.see(2, 1, 0);
        DUE.is(31, "the last known one", t.fits(3), 2);
        DUE.is(31, "as known by 2", t.fits(2), 1);
        DUE.is(32, "m surely", t.visitors(2, 3, true), 1);
        t.see(2, 1, 2);
        DUE.is(31, "two t at c, one s", t.fits(4), 0);
        DUE.is(32, "nothing fits", t.visitors(2, 4, true), 0);
        DUE.is(32, "nothing fits", t.visitors(2, 4, false), 0);
        t.see(2, 0, 0);
        DUE.is(31, "two t at c", t.fits(5), 1);
        t.see(2, 1, 9);
        DUE.is(31, "nine", t.fits(6), 0);
        t.forget();
        DUE.is(12, "m can't go, n can't", t.count(7), 0);
        t.see(0, 0, 0);
        t.see(0, 1, 0);
        t.see(1, 0, 0);
        t.see(1, 1, 0);
        t.see(2, 0, 0);
        t.see(2, 1, 0);
        DUE.is(31, "no one was anywhere", t.fits(6), 1);
    }

    private static void lawful() {
        // dearest: m leaves s at b, t at c; cheapest: t at b, s at c.
        HallTables t = Feeder.town(TOWN + "dearest;");
        DUE.is(31, "whatever", t.fits(0), 9);
        t.see(2, 0, 1);
        DUE.is(31, "s at c", t.fits(1), 0);
        t = Feeder.town(TOWN + "cheapest;");
        DUE.is(31, "whatever", t.fits(0), 9);
        t.see(2, 0, 1);
        DUE.is(31, "s at c", t.fits(1), 3);
        DUE.is(32, "m surely", t.visitors(2, 1, true), 1);
    }

    private static void inTheBeginning() {
        HallTables t = Feeder.town("sort s 5; house a; house b; door a b 1; man m a: s 1;");
        t.go(0, 1, 0);
        DUE.is(31, "what he had in the beginning", t.fits(0), 2);
        t.see(1, 0, 1);
        DUE.is(31, "he was there", t.fits(1), 1);
        DUE.is(32, "surely", t.visitors(1, 1, true), 1);
        DUE.is(32, "never at HOME", t.visitors(0, 1, false), 0);
    }

    private static void many() {
        StringBuilder text = new StringBuilder("sort p 1; sort q 2; sort r 3; sort s 4; sort t 5;");
        for (char h = 'a'; h < 'k'; h++) {
            text.append("house ").append(h).append(';');
        }
        for (char m = 'k'; m <= 'o'; m++) {
            text.append("man ").append(m).append(" a: p 3, q 3, r 3, s 3, t 3;");
        }
        HallTables t = Feeder.town(text + "man x b: p 1, q 1, r 1, s 1, t 1;");
        DUE.is(31, "46 to the 6th", t.fits(0), 9474296896L);
        for (int sort = 0; sort < 5; sort++) {
            t.see(9, sort, 1);
        }
        t.see(8, 0, 1);
        DUE.is(31, "six things by six men", t.fits(6), 720);
        DUE.is(32, "all maybe", t.visitors(8, 6, false), 63);
        DUE.is(32, "none surely", t.visitors(8, 6, true), 0);
        t.see(1, 0, 0);
        DUE.is(31, "and none at b", t.fits(7), 720);
        t.see(0, 0, 1);
        DUE.is(31, "a seventh", t.fits(8), 0);
        t.forget();
        for (int cell = 0; cell < 30; cell++) {
            t.see(cell / 5, cell % 5, 3);
        }
        DUE.is(31, "ninety things", t.fits(30), 0);
        DUE.is(31, "six things at two tables", t.fits(2), 0);
        DUE.is(32, "no one", t.visitors(1, 30, true), 0);
        t.forget();
        t.see(9, 3, 3);
        t.see(9, 4, 3);
        DUE.is(31, "three and three of six", t.fits(2), 20);
    }

    public static void main(String[] args) {
        seen();
        fits();
        lawful();
        inTheBeginning();
        many();
        DUE.end();
    }
}
