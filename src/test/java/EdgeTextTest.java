import java.util.ArrayList;
import java.util.List;

/** The boundaries that the Terms (I) and promises 1 to 5 name: the tape, TOKENS, FAULTS, what a text changes. */
final class EdgeTextTest {
    private static final Edge EDGE = new Edge();
    private static final String[] WORDS = {"sort", "house", "door", "worth", "shop", "hall", "man", "law", "call",
        "any", "dearest", "cheapest"};
    private static final String BASE = "sort s 1;house h;house g;man m h;";
    private static final String FULL = "sort s 5;sort t 2;house a;house b;house c;door a b 3;door b c 4;shop b t;"
            + "hall c s 2;worth b s 7;man m a:s 3,t 1;man n b:t 2;law dearest;call m b;call n c;";

    private EdgeTextTest() {
    }

    private static void fault(String text, int fault, int place) {
        HallTables town = new HallTables();
        Feeder.feed(town, text);
        String told = text.length() < 200 ? text : text.substring(0, 60) + " .. " + text.substring(text.length() - 60);
        EDGE.is("read of '" + told + "'", town.read(), fault);
        EDGE.is("place of '" + told + "'", town.place(), place);
    }

    private static void fine(String text) {
        fault(text, 0, -1);
    }

    private static boolean isBlank(int b) {
        return b == 9 || b == 10 || b == 13 || b == 32;
    }

    private static boolean isLetter(int b) {
        return b >= 97 && b <= 122;
    }

    private static boolean isDigit(int b) {
        return b >= 48 && b <= 57;
    }

    private static void newObject() {
        EDGE.says(1, "As if an empty text had been read.");
        HallTables fresh = new HallTables();
        HallTables read = new HallTables();
        EDGE.is("read()", read.read(), 0);
        EDGE.same("a new object", Look.at(fresh), Look.at(read));
        EDGE.is("place()", fresh.place(), -1);
        EDGE.is("the tape", fresh.count(6), 0);
        HallTables had = Feeder.town(FULL);
        EDGE.is("read() of a town", had.read(), 0);
        EDGE.same("an empty text in place of a town", Look.at(had), Look.at(fresh));
        EDGE.is("undo()", fresh.undo(), false);
        for (int slot = 0; slot < 3; slot++) {
            EDGE.is("restore(" + slot + ")", fresh.restore(slot), false);
        }
    }

    private static void feed() {
        EDGE.says(2, "Twenty bytes, the highest of a first, come behind the tape: how many it has.");
        HallTables t = new HallTables();
        EDGE.is("twenty", t.feed(0x736f7274, 0x20612037, 0x3b686f75, 0x73652062, 0x3b686f75), 20);
        EDGE.is("behind them", t.feed(0x73652063, 0x3b646f6f, 0x72206220, 0x63203939, 0x3b202020), 40);
        EDGE.is("'sort a 7;house b;house c;door b c 99;   '", t.read(), 0);
        EDGE.is("the worth", t.worth(-1, 0), 7);
        EDGE.is("the minutes", t.door(0, 1), 99);
        t.feed(0x80ffffff, 0, 0, 0, 0);
        EDGE.is("the highest byte of an int below 0", t.read(), 1);
        EDGE.is("is the first", t.place(), 0);
        t.feed(0x20202080, 0x20202020, 0x20202020, 0x20202020, 0x20202020);
        EDGE.is("the lowest byte", t.read(), 1);
        EDGE.is("is the fourth", t.place(), 3);
        t.feed(0x20202020, 0x20202020, 0x20202020, 0x20202020, 0x20202080);
        t.read();
        EDGE.is("the lowest byte of e is the twentieth", t.place(), 19);
        EDGE.says(2, "NONE, and nothing comes, if it would have more than 2,000.");
        for (int less = 0; less < 20; less++) {
            HallTables tape = new HallTables();
            Feeder.feed(tape, " ".repeat(1980 + less));
            EDGE.is("behind " + (1980 + less), tape.feed(0x736f7274, 0, 0, 0, 0), less == 0 ? 2000 : -1);
            EDGE.is("then there are", tape.count(6), less == 0 ? 2000 : 1980 + less);
            EDGE.is("nothing else came", tape.read(), less == 0 ? 1 : 0);
        }
        Feeder.feed(t, " ".repeat(2000));
        EDGE.is("behind 2000", t.feed(0, 0, 0, 0, 0), -1);
        EDGE.is("then there are", t.count(6), 2000);
        EDGE.is("all blanks still", t.read(), 0);
        EDGE.is("an empty tape again", t.feed(0, 0, 0, 0, 0), 20);
    }

    private static void back() {
        EDGE.says(3, "The last n bytes of the tape go: how many it has.");
        HallTables t = new HallTables();
        Feeder.feed(t, "sort a 1;house b;door");
        EDGE.is("the last four", t.back(4), 17);
        EDGE.is("none", t.back(0), 17);
        EDGE.is("what stays is the first", t.read(), 0);
        EDGE.is("a house", t.count(1), 1);
        Feeder.feed(t, "sort");
        Feeder.feed(t, " a 1;");
        EDGE.is("of two feeds", t.back(5), 4);
        EDGE.is("what comes then", Feeder.feed(t, "s;"), 6);
        EDGE.is("stands behind", t.read(), 1);
        EDGE.is("'sorts;'", t.place(), 0);
        EDGE.says(3, "NONE, and nothing goes, if it has not so many, or n is below 0.");
        EDGE.is("0 of an empty tape", t.back(0), 0);
        EDGE.is("1 of an empty tape", t.back(1), -1);
        Feeder.feed(t, "house a;");
        EDGE.is("9 of 8", t.back(9), -1);
        EDGE.is("-1", t.back(-1), -1);
        EDGE.is("the least int", t.back(Integer.MIN_VALUE), -1);
        EDGE.is("the greatest int", t.back(Integer.MAX_VALUE), -1);
        EDGE.is("nothing goes", t.count(6), 8);
        EDGE.is("8 of 8", t.back(8), 0);
        Feeder.feed(t, " ".repeat(2000));
        EDGE.is("2001 of 2000", t.back(2001), -1);
        EDGE.is("2000 of 2000", t.back(2000), 0);
    }

    private static void readAndPlace() {
        EDGE.says(4, "The tape, which is empty then, is read: 0, or the number of its FAULT.");
        String[] faults = {"sort a 1;", "sort;", "law any;".repeat(133) + "law any;", "sort a 1;sort a 1;",
            "shop a b;", "sort a 100;"};
        int[] places = {-1, 4, 1068, 14, 5, 7};
        int[] numbers = {0, 1, 2, 3, 4, 5};
        for (int i = 0; i < faults.length; i++) {
            HallTables t = new HallTables();
            Feeder.feed(t, faults[i]);
            EDGE.is("read() " + i, t.read(), numbers[i]);
            EDGE.is("the tape then", t.count(6), 0);
            EDGE.is("nothing to go", t.back(1), -1);
            EDGE.is("its place", t.place(), places[i]);
            EDGE.is("read() once more", t.read(), 0);
            EDGE.is("place() then", t.place(), -1);
        }
        EDGE.says(5, "The byte of the latest read()'s FAULT; NONE without.");
        HallTables t = new HallTables();
        EDGE.is("without read()", t.place(), -1);
        Feeder.feed(t, "x");
        EDGE.is("of what is not read", t.place(), -1);
        t.read();
        EDGE.is("at the first byte", t.place(), 0);
        Feeder.feed(t, "  x");
        EDGE.is("of the latest read()", t.place(), 0);
        t.back(1);
        EDGE.is("of the latest read()", t.place(), 0);
        Feeder.feed(t, "y");
        t.read();
        EDGE.is("of the second one", t.place(), 2);
        Feeder.read(t, "house a;");
        EDGE.is("of a good one", t.place(), -1);
    }

    private static void length() {
        EDGE.says(4, "A TEXT has 2,000 bytes at most.");
        fine(" ".repeat(1992) + "house a;");
        fault(" ".repeat(1993) + "house a", 1, 2000);
        fault(" ".repeat(1999) + "x", 1, 1999);
        fine("");
        fault("x", 1, 0);
        StringBuilder name = new StringBuilder();
        for (int i = 0; i < 200; i++) {
            name.append("shop a b; ");
        }
        fault(name.toString(), 2, 1000);
        EDGE.says(4, "the text's end: its length");
        fault("sort", 1, 4);
        fault("sort ", 1, 5);
        fault("sort a 1", 1, 8);
        fault("sort a 1; sort a 1;\n\nlaw\t\n", 1, 26);
        fine("sort a 1;\n\n");
        fault(" ".repeat(1996) + "sort", 1, 2000);
    }

    /** Every byte where a NAME or an INT is due, and in each of them. */
    private static void bytes() {
        EDGE.says(4, "with blanks (9, 10, 13, 32) between or not");
        for (int b = 0; b < 256; b++) {
            char c = (char) b;
            int place = isLetter(b) ? 0 : 5;
            fault("house" + c + "a;", isBlank(b) ? 0 : 1, isBlank(b) ? -1 : place);
        }
        fine("\t\n\r sort\ta\n1\r; \t\n\r");
        fine("sort a1;house b;house c;hall b a1;man m b:a1,a2;");
        fault("so rt a 1;", 1, 0);
        fault("sort a 1 2;", 1, 9);
        EDGE.says(4, "NAMES (letters a .. z, 8 at most, none of the words in quotes)");
        for (int b = 0; b < 256; b++) {
            char c = (char) b;
            fault("house " + c + ";", isLetter(b) ? 0 : 1, isLetter(b) ? -1 : isBlank(b) ? 7 : 6);
            boolean good = isLetter(b) || isBlank(b);
            fault("house a" + c + ";", good ? 0 : 1, good ? -1 : b == ';' ? 8 : 7);
        }
        EDGE.says(4, "INTS (1 to 4 digits)");
        for (int b = 0; b < 256; b++) {
            char c = (char) b;
            fault("sort a " + c + ";", isDigit(b) ? 0 : 1, isDigit(b) ? -1 : isBlank(b) ? 8 : 7);
            boolean good = isDigit(b) || isBlank(b);
            fault("sort a 1" + c + ";", good ? 0 : 1, good ? -1 : b == ';' ? 9 : 8);
        }
    }

    private static void lengths() {
        EDGE.says(4, "A longer one, all else, is no TOKEN.");
        for (int n = 1; n <= 12; n++) {
            fault("house " + "z".repeat(n) + ";", n > 8 ? 1 : 0, n > 8 ? 6 : -1);
            fault("house " + "a".repeat(n) + ";", n > 8 ? 1 : 0, n > 8 ? 6 : -1);
            fault("sort a " + "0".repeat(n - 1) + "7;", n > 4 ? 1 : 0, n > 4 ? 7 : -1);
            fault("sort a " + "9".repeat(n) + ";", n > 4 ? 1 : n > 2 ? 5 : 0, n > 2 ? 7 : -1);
        }
        fault("house " + "a".repeat(1993) + ";", 1, 6);
        fault("sort a " + "0".repeat(1990) + ";", 1, 7);
        fault("sort a 4294967297;", 1, 7);
        fault("sort a 18446744073709551617;", 1, 7);
        fault("hous e;", 1, 0);
        fault("abcdefghi", 1, 0);
        fault("12345", 1, 0);
        EDGE.says(4, "TOKENS, the longest that can be");
        fault("sorta 1;", 1, 0);
        fault("sort a 12b;", 1, 9);
        fine("sort abcdefgh1;");
        fault("sort abcdefghi1;", 1, 5);
        fault("houses a;", 1, 0);
        fault("lawany;", 1, 0);
        fault("law anyany;", 1, 4);
        fault("house a;houseb;", 1, 8);
        fine("house a;house b;door a b 12;");
        EDGE.says(4, "none of the words in quotes");
        for (String word : WORDS) {
            fault("house " + word + ";", 1, 6);
            fault("man " + word + " a;", 1, 4);
            fine("house " + word.substring(1) + ";");
            fine("house " + word.substring(0, word.length() - 1) + ";");
            boolean fits = word.length() < 8;
            fault("house " + word + "x;", fits ? 0 : 1, fits ? -1 : 6);
        }
    }

    /** Each TELL with each kind of TOKEN at each of its places: it goes on, or SYNTAX stands there. */
    private static void grammar() {
        EDGE.says(4, "1 SYNTAX: a TOKEN, or what is none, with which no text goes on.");
        String[] told = {"sort t 5 ;", "house k ;", "door h g 1 ;", "worth h s 1 ;", "shop h s ;", "hall h s 1 ;",
            "man n h ;", "man n h : s 1 ;", "man n h : s 1 , s 2 , s 3 ;", "law any ;", "call m g ;"};
        String[] shapes = {"tni;", "tn;", "tnni;", "tnni;", "tnn;", "tnni;",
            "tnne", "tnneniE", "tnneniEniEniE", "tl;", "tnn;"};
        for (int i = 0; i < told.length; i++) {
            String[] tokens = told[i].split(" ");
            StringBuilder ahead = new StringBuilder(BASE);
            for (int part = 0; part < tokens.length; part++) {
                int begin = ahead.length();
                for (String other : candidates()) {
                    tryToken(ahead + other, shapes[i].charAt(part), other, begin);
                }
                ahead.append(tokens[part]).append(' ');
            }
            fine(ahead.toString());
        }
    }

    private static List<String> candidates() {
        List<String> all = new ArrayList<>(List.of(WORDS));
        all.addAll(List.of("zz", "1", ";", ":", ",", ".", "abcdefghi", "12345", "\u00e4", "-"));
        return all;
    }

    private static void tryToken(String text, char due, String token, int begin) {
        boolean tell = "sort house door worth shop hall man law call".contains(token) && token.length() > 2;
        boolean law = "any dearest cheapest".contains(token) && token.length() > 2;
        boolean on;
        switch (due) {
            case 't': on = tell; break;
            case 'l': on = law; break;
            case 'n': on = token.equals("zz"); break;
            case 'i': on = token.equals("1"); break;
            case 'e': on = token.equals(":") || token.equals(";"); break;
            case 'E': on = token.equals(",") || token.equals(";"); break;
            default: on = token.equals(";"); break;
        }
        boolean over = on && token.equals(";");
        fault(text, over ? 0 : 1, over ? -1 : on ? text.length() : begin);
    }

    private static String named(String ahead, int n, String behind) {
        StringBuilder text = new StringBuilder();
        for (int i = 0; i < n; i++) {
            text.append(ahead).append((char) ('a' + i)).append(behind);
        }
        return text.toString();
    }

    /** Of each kind as many as there can be, one more, and one more that goes on wrongly or not at all. */
    private static void atMost(String ahead, String all, String one, String word) {
        fine(ahead + all);
        int place = ahead.length() + all.length();
        fault(ahead + all + one, 2, place);
        fault(ahead + all + word, 2, place);
        fault(ahead + all + word + " " + word, 2, place);
        fault(ahead + all + " \n" + one, 2, place + 2);
        fault(ahead + all + "law any;" + one + "x", 2, place + 8);
        fault(ahead + all + "law law;" + one, 1, place + 4);
        fault(ahead + all.substring(0, all.length() - 1) + " " + one, 1, place);
        fault("sort zz 100;sort zz 1;".substring(0, word.equals("sort") ? 0 : 22) + ahead + all + one,
                2, place + (word.equals("sort") ? 0 : 22));
    }

    private static void room() {
        EDGE.says(4, "SORTS (a WORTH 0 .. 99), 5 at most");
        atMost("", named("sort s", 5, " 1;"), "sort x 1;", "sort");
        EDGE.says(4, "HOUSES, 10 at most");
        atMost("", named("house h", 10, ";"), "house x;", "house");
        EDGE.says(4, "of two HOUSES the one told last holds), 20 at most");
        atMost("house a;house b;", "door a b 1;".repeat(20), "door a b 1;", "door");
        EDGE.says(4, "MEN, 6 at most");
        atMost("house a;", named("man m", 6, " a;"), "man x a;", "man");
        EDGE.says(4, "CALLS, 20 at most");
        atMost("house a;house b;man m a;", "call m b;".repeat(20), "call m b;", "call");
        EDGE.says(4, "a 6th sort, an 11th house, a 21st door, a 7th man, a 21st call (at its first TOKEN)");
        String town = "sort s 1;house a;";
        for (String many : new String[] {"shop a s;", "hall a s 9;", "worth a s 9;"}) {
            fine(town + many.repeat(60));
        }
        fine("law any;".repeat(133));
        EDGE.says(4, "2 ROOM: a 401st TOKEN");
        String most = "law any;".repeat(132);
        fine(most + "sort a 1;");
        fine(most + "law any;");
        fault(most + "shop a b;", 4, 1061);
        fault(most + "sort a 1;law", 2, 1065);
        fault(most + "sort a 1;  law any;", 2, 1067);
        fault(most + "law any;house a", 2, 1070);
        fault(most + "law any;house", 1, 1069);
        fault(most + "law any;house ", 1, 1070);
        fault("sort a 1;".repeat(4) + "law any;".repeat(128), 3, 14);
        fault("sort a 1;".repeat(4) + "law any;".repeat(128) + "x", 1, 1060);
        fault("sort a 1;".repeat(4) + "law any;".repeat(128) + "law", 2, 1060);
        EDGE.says(4, "of one place the least");
        fault(most + "sort a 1;any", 1, 1065);
        fault(most + "sort a 1;;", 1, 1065);
        fault(most + "sort a 1;.", 1, 1065);
        fault(most + "sort a 1;abcdefghi", 1, 1065);
        fault(most + "law any;house 1", 1, 1070);
        String sorts = named("sort s", 5, " 1;");
        fault(sorts + "shop a b;".repeat(2) + "law any;".repeat(124) + "sort", 2, 1060);
        fault(sorts + "shop a b;" + "law any;".repeat(125) + "sort", 2, 1059);
    }

    private static void twice() {
        EDGE.says(4, "3 TWICE: a NAME told already (SORTS, HOUSES and MEN together)");
        String[] kinds = {"sort x 1;", "house x;", "man x hh;"};
        int[] at = {5, 6, 4};
        for (String first : kinds) {
            for (int second = 0; second < 3; second++) {
                String ahead = "house hh;" + first;
                fault(ahead + kinds[second], 3, ahead.length() + at[second]);
                fine(ahead + kinds[second].replace("x", "y"));
                fine(ahead + kinds[second].replace("x", "xx"));
            }
        }
        fine("house abcdefgh;house abcdefgi;house bbcdefgh;house abcdefg;");
        fault("house abcdefgh;house abcdefgh;", 3, 21);
        fault("house a;man a a;", 3, 12);
        fault(named("sort s", 5, " 1;") + "sort", 2, 50);
        fault(named("sort s", 5, " 1;") + "house sa;", 3, 56);
        fault(named("sort s", 5, " 1;") + "house se;", 3, 56);
        fault(named("house s", 10, ";") + "sort sj 1;", 3, 95);
        fault("house a;" + named("man m", 6, " a;") + "house mf;", 3, 68);
        HallTables t = new HallTables();
        EDGE.is("a town", Feeder.read(t, "sort x 1;house h;"), 0);
        EDGE.is("its NAMES in another text", Feeder.read(t, "house x;sort h 1;"), 0);
        EDGE.is("a FAULT", Feeder.read(t, "house q;house q;"), 3);
        EDGE.is("a NAME of it", Feeder.read(t, "sort q 1;"), 0);
    }

    private static void names() {
        EDGE.says(4, "4 NAME: no such one told ahead (door: HOUSES; worth, shop, hall: a HOUSE, a SORT; man: a HOUSE, SORTS;"
                + " call: a MAN, a HOUSE).");
        String[] tells = {"door ? g 1;", "door h ? 1;", "worth ? s 1;", "worth h ? 1;", "shop ? s;", "shop h ?;",
            "hall ? s 1;", "hall h ? 1;", "man x ?;", "man x h:? 1;", "man x h:s 1,? 1;", "call ? g;", "call m ?;"};
        String due = "ggHsHsHsHssmg";
        for (int i = 0; i < tells.length; i++) {
            String kind = String.valueOf(due.charAt(i));
            int place = BASE.length() + tells[i].indexOf('?');
            // At the first place of a door only g's own door would be WRONG: there h stands for a HOUSE.
            String good = i == 0 ? "h" : kind.toLowerCase();
            fine(BASE + tells[i].replace("?", good));
            for (String other : new String[] {"s", "h", "m", "zz"}) {
                boolean house = "gH".contains(kind) && other.equals("h");
                if (!other.equals(good) && !house) {
                    fault(BASE + tells[i].replace("?", other), 4, place);
                }
            }
            String behind = kind.equals("s") ? "sort zz 1;" : kind.equals("m") ? "man zz h;" : "house zz;";
            fault(BASE + tells[i].replace("?", "zz") + behind, 4, place);
            fine(BASE + behind + tells[i].replace("?", "zz"));
        }
        fault("man x x;", 4, 6);
        fault("house h;man x h:x 1;", 4, 16);
        fault("call h h;house h;", 4, 5);
        HallTables t = new HallTables();
        EDGE.is("a town", Feeder.read(t, BASE), 0);
        EDGE.is("NAMES of the text ahead", Feeder.read(t, "shop h s;"), 4);
        EDGE.is("at the first", t.place(), 5);
    }

    /** A number at its least and its most, and one less and one more. */
    private static void number(String text, int least, int most) {
        int place = text.indexOf('?');
        fine(text.replace("?", String.valueOf(least)));
        fine(text.replace("?", String.valueOf(most)));
        fine(text.replace("?", "00" + most));
        fault(text.replace("?", String.valueOf(most + 1)), 5, place);
        fault(text.replace("?", "9999"), 5, place);
        if (least > 0) {
            fault(text.replace("?", String.valueOf(least - 1)), 5, place);
            fault(text.replace("?", "0000"), 5, place);
        } else {
            fine(text.replace("?", "0000"));
        }
    }

    private static void wrong() {
        EDGE.says(4, "5 WRONG (at the INT): a number not as told above");
        EDGE.says(4, "SORTS (a WORTH 0 .. 99)");
        number("sort x ?;", 0, 99);
        EDGE.says(4, "MINUTES 1 .. 99");
        number(BASE + "door h g ?;", 1, 99);
        EDGE.says(4, "what it is worth there (0 .. 99; else its WORTH; the last one told)");
        number(BASE + "worth h s ?;", 0, 99);
        EDGE.says(4, "so many (0 .. 9) of a SORT more lie on the table of a HOUSE");
        number(BASE + "hall h s ?;", 0, 9);
        EDGE.says(4, "so many (0 .. 3) of a SORT (the last one told of it)");
        number(BASE + "man x h:s ?;", 0, 3);
        number(BASE + "man x h:s 3,s ?;", 0, 3);
        number(BASE + "man x h:s ?,s 0;", 0, 3);
        EDGE.says(4, "(at the second NAME) a door of a HOUSE to itself, a call at one's own HOME");
        fault(BASE + "door h h 1;", 5, BASE.length() + 7);
        fault(BASE + "door h h 0;", 5, BASE.length() + 7);
        fault(BASE + "door g  g 100;", 5, BASE.length() + 8);
        fine(BASE + "door h g 1;door g h 1;");
        fault(BASE + "call m h;", 5, BASE.length() + 7);
        fine(BASE + "call m g;");
        fault(BASE + "man k g;call k g;", 5, BASE.length() + 15);
        fine(BASE + "man k g;call k h;");
    }

    private static void firstByPlace() {
        EDGE.says(4, "FAULTS of a text, the first by its place (a byte; the text's end: its length), of one place the least");
        fault("sort a 100;sort a 1;", 5, 7);
        fault("sort a 1;sort a 100;", 3, 14);
        fault("door a b 0;", 4, 5);
        fault("house a;door a b 0;", 4, 15);
        fault("house a;house b;door a b 0;", 5, 25);
        fault("house a;worth a b 100;", 4, 16);
        fault("sort s 1;house h;man m h:s 4,x 1;", 5, 27);
        fault("sort s 1;house h;man m h:x 4,s 1;", 4, 25);
        fault("sort s 1;house h;man h x:s 4;", 3, 21);
        fault("house a;house a;x", 1, 16);
        fault("house a;house a;house", 1, 21);
        EDGE.says(4, "If there is none, likewise: 3 TWICE");
        fault("sort s 100;" + named("sort s", 5, " 1;"), 2, 51);
        fault("sort s 100;house h", 1, 18);
        fault("sort s 100;house h.", 1, 18);
        fault("sort s 100;house h;", 5, 7);
    }

    private static HallTables used() {
        HallTables t = Feeder.town(FULL);
        EDGE.is("m goes", t.go(0, 1, 0), 0);
        EDGE.is("m buys", t.buy(0, 1), 0);
        EDGE.is("it is SEEN", t.see(1, 0, 1), 0);
        EDGE.is("hold", t.hold(2), true);
        EDGE.is("m goes on", t.go(0, 2, 0), 0);
        return t;
    }

    private static void changes() {
        EDGE.says(4, "A text with a FAULT changes nothing but the tape");
        String[] faults = {"law any;sort", "law any;".repeat(133) + "sort a 1;", "sort a 1;house a;", "house a;shop a b;",
            "sort z 1;house a;house b;man m a:z 4;", "house a;" + named("house h", 10, ";")};
        int[] numbers = {1, 2, 3, 4, 5, 2};
        HallTables t = used();
        String before = Look.at(t);
        for (int i = 0; i < faults.length; i++) {
            EDGE.is("read()", Feeder.read(t, faults[i]), numbers[i]);
            EDGE.same("behind FAULT " + numbers[i], Look.at(t), before);
            EDGE.is("the tape", t.count(6), 0);
        }
        EDGE.is("the step can be taken back", t.undo(), true);
        EDGE.is("and what is held", t.restore(2), true);
        EDGE.is("m is at b", t.man(0, 0), 1);
        EDGE.says(4, "else it is in place of the one ahead: each MAN is at HOME, no CALL is paid, nothing can be taken back,"
                + " nothing is SEEN, SLOTS hold nothing.");
        t = used();
        EDGE.is("the same text", Feeder.read(t, FULL), 0);
        EDGE.same("as a new object", Look.at(t), Look.at(Feeder.town(FULL)));
        EDGE.is("at HOME", t.man(0, 0), 0);
        EDGE.is("nothing can be taken back", t.undo(), false);
        EDGE.is("nothing is SEEN", t.forget(), 0);
        for (int slot = 0; slot < 3; slot++) {
            EDGE.is("nothing is held", t.restore(slot), false);
        }
        t = used();
        EDGE.is("another one", Feeder.read(t, "house z;house y;man k y;sort q 4;"), 0);
        EDGE.same("nothing of the one ahead", Look.at(t), Look.at(Feeder.town("house z;house y;man k y;sort q 4;")));
        t = new HallTables();
        for (String town : new String[] {EdgeTownTest.widest(), EdgeTownTest.widest(), FULL, BASE, "sort s 1;", FULL, BASE}) {
            EDGE.is("one more", Feeder.read(t, town), 0);
            EDGE.same("nothing of a wider one ahead", Look.at(t), Look.at(Feeder.town(town)));
            for (int slot = 0; slot < 3; slot++) {
                EDGE.is("nothing is held in " + slot, t.restore(slot), false);
                EDGE.is("hold(" + slot + ")", t.hold(slot), true);
            }
        }
        t = used();
        EDGE.is("an empty one", t.read(), 0);
        EDGE.same("nothing of the one ahead", Look.at(t), Look.at(new HallTables()));
    }

    private static void lastOnes() {
        EDGE.says(4, "of two HOUSES the one told last holds");
        HallTables t = Feeder.town("house a;house b;house c;door a b 9;door b a 4;door a c 1;door a b 7;");
        EDGE.is("a to b", t.door(0, 1), 7);
        EDGE.is("b to a", t.door(1, 0), 7);
        EDGE.is("a to c", t.door(2, 0), 1);
        EDGE.says(4, "are numbered each from 0 on as they stand");
        EDGE.is("door a c", t.door(0, 2), 1);
        EDGE.is("door b c", t.door(1, 2), 0);
        EDGE.is("no house 3", t.door(0, 3), -1);
        t = Feeder.town("house q;sort z 9;house p;sort y 8;man o p;man n q;");
        EDGE.is("sort z", t.worth(-1, 0), 9);
        EDGE.is("sort y", t.worth(-1, 1), 8);
        EDGE.is("o at p", t.man(0, 1), 1);
        EDGE.is("n at q", t.man(1, 1), 0);
        EDGE.says(4, "0 .. 99; else its WORTH; the last one told");
        t = Feeder.town("sort s 5;house a;house b;worth a s 99;worth a s 0;");
        EDGE.is("the last one told", t.worth(0, 0), 0);
        EDGE.is("else its WORTH", t.worth(1, 0), 5);
        EDGE.is("its WORTH stays", t.worth(-1, 0), 5);
        EDGE.says(4, "hall: so many (0 .. 9) of a SORT more lie on the table");
        t = Feeder.town("sort s 5;sort r 1;house a;house b;hall a s 9;hall a s 9;hall a s 0;hall b r 1;");
        EDGE.is("nine and nine and none", t.table(0, 0), 18);
        EDGE.is("one", t.table(1, 1), 1);
        EDGE.is("none told", t.table(0, 1), 0);
        EDGE.says(4, "so many (0 .. 3) of a SORT (the last one told of it)");
        t = Feeder.town("sort s 5;sort r 1;house a;man m a:s 3,r 2,s 0,r 3;man n a:s 0,s 3;man o a;");
        EDGE.is("none of s", t.has(0, 0), 0);
        EDGE.is("three of r", t.has(0, 1), 3);
        EDGE.is("three of s", t.has(1, 0), 3);
        EDGE.is("not told", t.has(2, 0), 0);
        EDGE.says(4, "LAW: any if not told, the last one");
        EDGE.is("not told", t.count(5), 0);
        EDGE.is("dearest", Feeder.town("law any;law cheapest;law dearest;").count(5), 1);
        EDGE.is("cheapest", Feeder.town("law dearest;law cheapest;").count(5), 2);
        EDGE.is("any", Feeder.town("law dearest;law cheapest;law any;").count(5), 0);
        EDGE.says(4, "shop: a HOUSE sells a SORT");
        t = Feeder.town("sort s 5;sort r 1;house a;house b;shop a s;shop a s;shop b r;man m a;");
        EDGE.is("told twice", t.buy(0, 0), 0);
        EDGE.is("sold elsewhere", t.buy(0, 1), 1);
    }

    public static void main(String[] args) {
        newObject();
        feed();
        back();
        readAndPlace();
        length();
        bytes();
        lengths();
        grammar();
        room();
        twice();
        names();
        wrong();
        firstByPlace();
        changes();
        lastOnes();
        EDGE.end();
    }
}
