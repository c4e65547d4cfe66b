/** Promises 1 to 5: the tape and the FAULTS of a text. */
final class TextTest {
    private static final Due DUE = new Due();

    private TextTest() {
    }

    private static void fault(String text, int fault, int place) {
        HallTables town = new HallTables();
        Feeder.feed(town, text);
        DUE.is(4, "read of '" + text + "'", town.read(), fault);
        DUE.is(5, "place of '" + text + "'", town.place(), place);
        DUE.is(35, "the tape behind read", town.count(6), 0);
    }

    private static void fine(String text) {
        fault(text, 0, -1);
    }

    private static void newObject() {
        HallTables town = new HallTables();
        for (int what = 0; what < 12; what++) {
            DUE.is(1, "count(" + what + ")", town.count(what), 0);
        }
        DUE.is(1, "place()", town.place(), -1);
        DUE.is(1, "man(0, 0)", town.man(0, 0), -1);
        DUE.is(1, "riches(-1)", town.riches(-1), -2);
        DUE.is(1, "fits(0)", town.fits(0), 1);
        DUE.is(1, "undo()", town.undo(), false);
        DUE.is(1, "restore(0)", town.restore(0), false);
        DUE.is(1, "hold(0)", town.hold(0), true);
        DUE.is(1, "year(1, 1, 3)", town.year(1, 1, 3), 0);
        DUE.is(1, "rest(0)", town.rest(0), 0);
    }

    private static void feedAndBack() {
        HallTables town = new HallTables();
        DUE.is(2, "feed of 'sort a 1;house b;'", town.feed(0x736f7274, 0x20612031, 0x3b686f75, 0x73652062, 0x3b202020), 20);
        DUE.is(4, "the highest byte first", town.read(), 0);
        DUE.is(4, "one sort", town.count(0), 1);
        DUE.is(4, "one house", town.count(1), 1);
        DUE.is(3, "back(0) of none", town.back(0), 0);
        DUE.is(3, "back(1) of none", town.back(1), -1);
        for (int i = 1; i <= 100; i++) {
            DUE.is(2, "feed " + i, town.feed(-1, 0, 1, 2, 3), 20 * i);
        }
        DUE.is(2, "feed on a full tape", town.feed(0, 0, 0, 0, 0), -1);
        DUE.is(35, "nothing comes", town.count(6), 2000);
        DUE.is(3, "back(-1)", town.back(-1), -1);
        DUE.is(3, "back(2001)", town.back(2001), -1);
        DUE.is(35, "nothing goes", town.count(6), 2000);
        DUE.is(3, "back(19)", town.back(19), 1981);
        DUE.is(2, "feed with room for 19", town.feed(0, 0, 0, 0, 0), -1);
        DUE.is(3, "back(1)", town.back(1), 1980);
        DUE.is(2, "feed with room for 20", town.feed(0, 0, 0, 0, 0), 2000);
        DUE.is(3, "back(2000)", town.back(2000), 0);
        DUE.is(2, "feed of -1", town.feed(-1, -1, -1, -1, -1), 20);
        DUE.is(4, "bytes 255", town.read(), 1);
        DUE.is(5, "at the first", town.place(), 0);
        DUE.is(3, "back of the tape that is read", town.back(1), -1);
        DUE.is(3, "back(least int)", town.back(Integer.MIN_VALUE), -1);
        DUE.is(3, "back(greatest int)", town.back(Integer.MAX_VALUE), -1);
    }

    private static void tokens() {
        fine("");
        fine(" \t\r\n ");
        fine("sort a 1;");
        fine("\tsort\na\r1 ;");
        fine("sort a1;house b;shop b a;");
        fine("sort abcdefgh 0099;");
        fault("sort abcdefghi 1;", 1, 5);
        fault("sort a 00001;", 1, 7);
        fault("sorta 1;", 1, 0);
        fault("Sort a 1;", 1, 0);
        fault("sort a 1.", 1, 8);
        fault("sort a -1;", 1, 7);
        fault("sort a\u000b1;", 1, 6);
        fault("sort a\u00001;", 1, 6);
        fault("sort a\u00a01;", 1, 6);
        fault("sort a\u00e9 1;", 1, 6);
        fault("sort a\f1;", 1, 6);
        fault("sort a{1;", 1, 6);
        fault("sort a`1;", 1, 6);
        fault("sort a/1;", 1, 6);
    }

    private static void syntax() {
        fault(";", 1, 0);
        fault("a", 1, 0);
        fault("  7", 1, 2);
        fault("any;", 1, 0);
        fault("sort", 1, 4);
        fault("sort  ", 1, 6);
        fault("sort a 1", 1, 8);
        fault("sort a 1;;", 1, 9);
        fault("sort 1 a;", 1, 5);
        fault("sort a;", 1, 6);
        fault("house a 1;", 1, 8);
        for (String word : "sort house door worth shop hall man law call any dearest cheapest".split(" ")) {
            fault("house " + word + ";", 1, 6);
        }
        fault("law fair;", 1, 4);
        fault("law;", 1, 3);
        fault("law any dearest;", 1, 8);
        fault("house a; man m a: ;", 1, 18);
        fault("house a; man m a, s 1;", 1, 16);
        fault("sort s 1; house a; man m a: s 1, ;", 1, 33);
        fault("sort s 1; house a; man m a: s 1 s 1;", 1, 32);
        fault("sort s 1; house a; man m a: s 1: s 1;", 1, 31);
        fault("sort s 1; house a; man m a s 1;", 1, 27);
        fault("house a; house b; door a b;", 1, 26);
        fault("shop a b 1;", 1, 9);
        fault("call a b 1;", 1, 9);
        fault("hall a b 1, b 1;", 1, 10);
    }

    private static String times(String tell, int n) {
        return tell.repeat(n);
    }

    private static String named(String ahead, int n, String behind) {
        StringBuilder text = new StringBuilder();
        for (int i = 0; i < n; i++) {
            text.append(ahead).append((char) ('a' + i)).append(behind);
        }
        return text.toString();
    }

    private static void room() {
        fine(named("sort s", 5, " 1;"));
        fault(named("sort s", 6, " 1;"), 2, 50);
        fault(named("sort s", 5, " 1;") + " sort", 2, 51);
        fault(named("sort s", 5, " 1;") + " sort sort", 2, 51);
        fault(named("sort s", 5, " 1") + " sort", 1, 9);
        fine(named("house h", 10, ";"));
        fault(named("house h", 11, ";"), 2, 90);
        String two = "sort s 1;house a;house b;man m a;";
        fine(two + times("door a b 1;", 20));
        fault(two + times("door a b 1;", 21), 2, 33 + 220);
        fine(two + times("call m b;", 20));
        fault(two + times("call m b;", 21), 2, 33 + 180);
        fine("house a;" + named("man m", 6, " a;"));
        fault("house a;" + named("man m", 7, " a;"), 2, 8 + 54);
        fine(two + times("shop a s;", 40) + times("hall a s 9;", 20) + times("worth a s 9;", 20));
        fault("sort a 1;" + times("sort a 1;", 5), 2, 45);
        fine(times("law any;", 132) + "sort a 1;");
        fault(times("law any;", 132) + "sort a 1;law", 2, 1065);
        fault(times("law any;", 132) + "sort a 1; any", 1, 1066);
        fault(times("law any;", 133) + "law any", 2, 1068);
        fault(times("law any;", 133) + "law ;", 1, 1068);
        fault(times("law any;", 133) + "law ", 1, 1068);
        fault(times("law any;", 133) + "law .", 1, 1068);
        fault(" ".repeat(1991) + "house a;x", 1, 1999);
        fine(" ".repeat(1992) + "house a;");
    }

    private static void meaning() {
        fault("sort a 1; sort a 1;", 3, 15);
        fault("sort a 1; house a;", 3, 16);
        fault("house a; sort a 1;", 3, 14);
        fault("house a; man a a;", 3, 13);
        fault("house a; man m a; man m a;", 3, 22);
        fault("house a; man m a; house m;", 3, 24);
        fault("house a; man m m;", 4, 15);
        fault("door a b 1;", 4, 5);
        fault("house a; door a b 1;", 4, 16);
        fault("house b; door a b 1; house a;", 4, 14);
        fault("sort s 1; house a; door a s 1;", 4, 26);
        fault("house a; worth a a 1;", 4, 17);
        fault("sort s 1; worth s s 1;", 4, 16);
        fault("house a; shop a s; sort s 1;", 4, 16);
        fault("sort s 1; shop s s;", 4, 15);
        fault("house a; hall a s 1;", 4, 16);
        fault("sort s 1; hall s s 1;", 4, 15);
        fault("man m h; house h;", 4, 6);
        fault("house h; man m h: s 1;", 4, 18);
        fault("sort s 1; house h; man m h: s 1, t 1;", 4, 33);
        fault("house h; call h h;", 4, 14);
        fault("house h; man m h; call m m;", 4, 25);
        fine("sort a 0; sort b 99;");
        fault("sort a 100;", 5, 7);
        fault("sort a 9999;", 5, 7);
        fault("house a; door a a 5;", 5, 16);
        fault("house a; door a a 0;", 5, 16);
        fault("house a; house b; door a b 0;", 5, 27);
        fault("house a; house b; door a b 100;", 5, 27);
        fine("house a; house b; door a b 99; door b a 1;");
        fine("house a; sort s 1; worth a s 0; worth a s 99; hall a s 0; hall a s 9;");
        fault("house a; sort s 1; worth a s 100;", 5, 29);
        fault("house a; sort s 1; hall a s 10;", 5, 28);
        fine("house a; sort s 1; man m a: s 0, s 3;");
        fault("house a; sort s 1; man m a: s 4;", 5, 30);
        fault("house a; sort s 1; man m a: s 3, s 4;", 5, 35);
        fault("house a; house b; man m a; call m a;", 5, 34);
        fault("door a b 1; ;", 1, 12);
        fault("sort a 100; sort a 1; door x y 1;", 5, 7);
        fault("sort a 1; sort a 100;", 3, 15);
    }

    /** A text with a FAULT changes nothing; a good one, be it empty, makes all new. */
    private static void instead() {
        HallTables town = Feeder.town("sort s 5; house a; house b; door a b 3; man m a: s 3; law dearest;");
        DUE.is(12, "go", town.go(0, 1, 0), 0);
        DUE.is(29, "see", town.see(1, 0, 1), 0);
        DUE.is(33, "hold", town.hold(1), true);
        DUE.is(4, "a fault", Feeder.read(town, "sort s 5; sort s 6;"), 3);
        DUE.is(5, "its place", town.place(), 15);
        DUE.is(4, "the sorts stay", town.count(0), 1);
        DUE.is(4, "the law stays", town.count(5), 1);
        DUE.is(4, "he stays", town.man(0, 0), 1);
        DUE.is(4, "steps stay", town.count(7), 1);
        DUE.is(4, "SEEN stays", town.count(8), 1);
        DUE.is(4, "SLOTS stay", town.count(9), 1);
        DUE.is(4, "the table stays", town.count(10), 1);
        DUE.is(4, "the same text again", Feeder.read(town, "sort s 6; house a; house b; man m b: s 2;"), 0);
        DUE.is(5, "no place", town.place(), -1);
        DUE.is(4, "at home", town.man(0, 0), 1);
        DUE.is(4, "no minutes", town.man(0, 3), 0);
        DUE.is(4, "no loss", town.man(0, 4), 0);
        DUE.is(4, "no door", town.door(0, 1), 0);
        DUE.is(4, "law any", town.count(5), 0);
        DUE.is(4, "no steps", town.undo(), false);
        DUE.is(4, "nothing SEEN", town.count(8), 0);
        DUE.is(4, "no SLOTS", town.restore(1), false);
        DUE.is(4, "clean tables", town.count(10), 0);
        DUE.is(4, "an empty text", town.read(), 0);
        DUE.is(4, "no one", town.count(3), 0);
        DUE.is(4, "no house", town.table(0, 0), -1);
    }

    public static void main(String[] args) {
        newObject();
        feedAndBack();
        tokens();
        syntax();
        room();
        meaning();
        instead();
        DUE.end();
    }
}
