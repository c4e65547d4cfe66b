import java.util.Random;

/** Random towns and calls, HallTables held against the Model; the seeds are fixed, so each run is the same. */
final class RandomTest {
    private static final Random RANDOM = new Random(20261118);
    private static final Due DUE = new Due();
    private static final String[] LAWS = {"any", "dearest", "cheapest"};
    private static final String[] BLANKS = {" ", "  ", "\n", "\t", "\r\n", " \t "};
    private static final String[] ODD = {"sort", "house", "law", "any", ";", ":", ",", ".", "a", "h0", "12345", "7",
        "abcdefghi", "A", "-", "\u00e9", "0", "100", "x", "1x", "x1", "man", "call", "s", "ha", "ma", "sa"};

    private RandomTest() {
    }

    private static int upTo(int n) {
        return RANDOM.nextInt(n + 1);
    }

    private static String name(char kind, int i) {
        return "" + kind + (char) ('a' + i);
    }

    /** A town; small ones, so that the Model can try all. */
    private static String town(int mostSorts, int mostHouses, int mostMen, int mostCalls, int mostShops) {
        StringBuilder t = new StringBuilder();
        int sorts = upTo(mostSorts);
        int houses = upTo(mostHouses);
        for (int i = 0; i < sorts; i++) {
            t.append("sort ").append(name('s', i)).append(' ').append(upTo(RANDOM.nextBoolean() ? 3 : 99)).append(';');
        }
        for (int i = 0; i < houses; i++) {
            t.append("house ").append(name('h', i)).append(" ;");
        }
        int doors = houses < 2 ? 0 : Math.min(20, upTo(2 * houses));
        for (int i = 0; i < doors; i++) {
            int a = RANDOM.nextInt(houses);
            int b = (a + 1 + RANDOM.nextInt(houses - 1)) % houses;
            t.append("door ").append(name('h', a)).append(' ').append(name('h', b)).append(' ')
                    .append(1 + upTo(RANDOM.nextBoolean() ? 3 : 98)).append(";\n");
        }
        for (int i = 0; houses > 0 && sorts > 0 && i < mostShops; i++) {
            String cell = name('h', RANDOM.nextInt(houses)) + " " + name('s', RANDOM.nextInt(sorts));
            int kind = RANDOM.nextInt(3);
            t.append(kind == 0 ? "worth " + cell + " " + upTo(5) : kind == 1 ? "shop " + cell : "hall " + cell + upTo(3));
            t.append(";");
        }
        int men = houses == 0 ? 0 : upTo(mostMen);
        int[] homes = new int[men];
        for (int i = 0; i < men; i++) {
            homes[i] = RANDOM.nextInt(houses);
            t.append("man ").append(name('m', i)).append(' ').append(name('h', homes[i]));
            int items = sorts == 0 ? 0 : upTo(3);
            for (int k = 0; k < items; k++) {
                t.append(k == 0 ? ":" : ", ").append(name('s', RANDOM.nextInt(sorts))).append(' ').append(upTo(3));
            }
            t.append(';');
        }
        for (int i = 0; i < 2 && RANDOM.nextBoolean(); i++) {
            t.append("law ").append(LAWS[RANDOM.nextInt(3)]).append(';');
        }
        int calls = houses < 2 || men == 0 ? 0 : upTo(mostCalls);
        for (int i = 0; i < calls; i++) {
            int m = RANDOM.nextInt(men);
            int h = (homes[m] + 1 + RANDOM.nextInt(houses - 1)) % houses;
            t.append("call ").append(name('m', m)).append(' ').append(name('h', h)).append(';');
        }
        return t.toString();
    }

    /** Something of a text is changed, left out, put in or told twice. */
    private static String spoilt(String text) {
        StringBuilder t = new StringBuilder(text);
        for (int i = upTo(2); i >= 0; i--) {
            int at = upTo(t.length());
            int end = Math.min(t.length(), at + upTo(6));
            switch (RANDOM.nextInt(5)) {
                case 0: t.delete(at, end); break;
                case 1: t.insert(at, ODD[RANDOM.nextInt(ODD.length)]); break;
                case 2: t.replace(at, end, " " + ODD[RANDOM.nextInt(ODD.length)] + " "); break;
                case 3: t.insert(at, BLANKS[RANDOM.nextInt(BLANKS.length)]); break;
                default: t.setLength(at); break;
            }
        }
        return t.length() > 2000 ? t.substring(0, 2000) : t.toString();
    }

    private static void read(HallTables town, Model model, String text) {
        byte[] bytes = text.getBytes(java.nio.charset.StandardCharsets.ISO_8859_1);
        for (int i = 0; i < bytes.length; i += 20) {
            int[] five = new int[5];
            for (int k = 0; k < 20; k++) {
                five[k / 4] = five[k / 4] << 8 | (i + k < bytes.length ? bytes[i + k] & 255 : 32);
            }
            DUE.is(2, "feed", town.feed(five[0], five[1], five[2], five[3], five[4]),
                    model.feed(five[0], five[1], five[2], five[3], five[4]));
        }
        int over = (20 - bytes.length % 20) % 20;
        DUE.is(3, "back", town.back(over), model.back(over));
        DUE.is(4, "read of " + text, town.read(), model.read());
        DUE.is(5, "place of " + text, town.place(), model.place());
    }

    /** A number of one of n, now and then one that is not. */
    private static int some(int n) {
        return RANDOM.nextInt(12) == 0 ? RANDOM.nextInt(n + 4) - 2 : n == 0 ? 0 : RANDOM.nextInt(n);
    }

    private static int someOrNone(int n) {
        return RANDOM.nextInt(4) == 0 ? -1 : some(n);
    }

    private static void ask(HallTables t, Model m, String text, boolean dear) {
        int[] n = m.sizes();
        int s = some(n[0]);
        int h = some(n[1]);
        int g = some(n[1]);
        int a = some(n[2]);
        int b = some(n[2]);
        int by = some(3);
        int sn = someOrNone(n[0]);
        int call = RANDOM.nextInt(30);
        String at = " " + s + " " + sn + " " + h + " " + g + " " + a + " " + b + " by " + by + " in " + text;
        switch (call) {
            case 0: DUE.is(6, "door" + at, t.door(h, g), m.door(h, g)); break;
            case 1: DUE.is(7, "worth" + at, t.worth(someless(h), s), m.worth(someless(h), s)); break;
            case 2: DUE.is(8, "table" + at, t.table(h, s), m.table(h, s)); break;
            case 3: for (int w = -1; w < 6; w++) DUE.is(9, "man" + at, t.man(a, w), m.man(a, w)); break;
            case 4: DUE.is(10, "has" + at, t.has(a, s), m.has(a, s)); break;
            case 5: DUE.is(11, "may" + at, t.may(a, h, s), m.may(a, h, s)); break;
            case 6: case 7: case 8: case 9: case 10: case 11:
                DUE.is(12, "go" + at, t.go(a, h, sn), m.go(a, h, sn)); break;
            case 12: case 13: DUE.is(13, "buy" + at, t.buy(a, s), m.buy(a, s)); break;
            case 14: DUE.is(14, "undo" + at, t.undo(), m.undo()); break;
            case 15: case 16:
                for (int w = -1; w < 5; w++) DUE.is(15, "way" + w + at, t.way(a, h, sn, by, w), m.way(a, h, sn, by, w));
                for (int i = -1; i < 6; i++) DUE.is(16, "step" + i + at, t.step(a, h, sn, by, i), m.step(a, h, sn, by, i));
                break;
            case 17: for (int w = -1; w < 4; w++) DUE.is(17, "rid" + w + at, t.rid(a, s, by, w), m.rid(a, s, by, w)); break;
            case 18: DUE.is(18, "get" + at, t.get(a, s), m.get(a, s)); break;
            case 19: DUE.is(19, "inReach" + at, t.inReach(a), m.inReach(a));
                DUE.is(20, "most" + at, t.most(a, h), m.most(a, h)); break;
            case 20: for (int w = -1; w < 3; w++) DUE.is(21, "meet" + w + at, t.meet(a, b, w), m.meet(a, b, w)); break;
            case 21: DUE.is(22, "riches" + at, t.riches(h), m.riches(h));
                DUE.is(22, "poorest" + at, t.riches(-1), m.riches(-1)); break;
            case 22: int set = some(1 << n[1]);
                DUE.is(23, "round " + set + at, t.round(a, set), m.round(a, set)); break;
            case 23: DUE.is(24, "carried" + at, t.carried(s, h), m.carried(s, h)); break;
            case 24: if (dear) for (int w = -1; w < 5; w++) DUE.is(25, "helps" + w + at, t.helps(s, h, w), m.helps(s, h, w));
                if (dear) DUE.is(26, "turned" + at, t.turned(s, h), m.turned(s, h)); break;
            case 25: int seed = RANDOM.nextInt();
                int days = RANDOM.nextInt(10) == 0 ? 395 + RANDOM.nextInt(10) : RANDOM.nextInt(12) - 1;
                for (int w = -1; w < 5; w++) DUE.is(27, "year " + seed + " " + days + at, t.year(seed, days, w), m.year(seed, days, w));
                break;
            case 26: for (int w = -1; w < 4; w++) DUE.is(28, "rest" + w + at, t.rest(w), m.rest(w)); break;
            case 27: int many = RANDOM.nextInt(8) == 0 ? RANDOM.nextInt(14) - 2 : RANDOM.nextInt(3);
                DUE.is(29, "see" + at, t.see(h, s, many), m.see(h, s, many));
                if (RANDOM.nextInt(12) == 0) DUE.is(30, "forget" + at, t.forget(), m.forget()); break;
            case 28: int k = some(n[4] + 1);
                DUE.is(31, "fits " + k + at, t.fits(k), m.fits(k));
                DUE.is(32, "maybe " + k + at, t.visitors(h, k, false), m.visitors(h, k, false));
                DUE.is(32, "surely " + k + at, t.visitors(h, k, true), m.visitors(h, k, true)); break;
            default: int slot = RANDOM.nextInt(5) - 1;
                if (RANDOM.nextBoolean()) DUE.is(33, "hold" + at, t.hold(slot), m.hold(slot));
                else DUE.is(34, "restore" + at, t.restore(slot), m.restore(slot));
                for (int w = -1; w < 13; w++) DUE.is(35, "count" + w + at, t.count(w), m.count(w)); break;
        }
    }

    private static int someless(int house) {
        return house == 0 ? -1 : house;
    }

    public static void main(String[] args) {
        int runs = args.length > 0 ? Integer.parseInt(args[0]) : 1000;
        if (args.length > 1) {
            RANDOM.setSeed(Long.parseLong(args[1]));
        }
        for (int run = 0; run < runs; run++) {
            HallTables town = new HallTables();
            Model model = new Model();
            boolean wide = run % 10 == 0;
            for (int text = 0; text < 4; text++) {
                String told = wide ? town(5, 10, 3, 8, 6) : town(3, 5, 4, 7, 8);
                if (RANDOM.nextInt(6) == 0) {
                    told = spoilt(told);
                }
                read(town, model, told.length() > 2000 ? "" : told);
                for (int i = 0; i < 100; i++) {
                    ask(town, model, told, !wide);
                }
            }
        }
        for (int run = 0; run < 20 * runs; run++) {
            HallTables town = new HallTables();
            Model model = new Model();
            String told = town(3, 4, 3, 3, 4);
            read(town, model, spoilt(told.substring(0, Math.min(told.length(), 1900))));
            for (int w = 0; w < 12; w++) {
                DUE.is(35, "count" + w, town.count(w), model.count(w));
            }
        }
        for (int run = 0; run < runs; run++) {
            days(run % 4 == 0);
            visits();
        }
        for (int run = 0; run < runs / 4; run++) {
            ways(run % 20 == 0 ? 4 : 3);
        }
        DUE.end();
    }

    private static String houses(int n) {
        StringBuilder t = new StringBuilder();
        for (int i = 0; i < n; i++) {
            t.append("house ").append(name('h', i)).append(';');
        }
        return t.toString();
    }

    /** Many CALLS through few HOUSES, so that one way of a thing often stands in that of another. */
    private static void days(boolean dear) {
        int houses = 3 + upTo(3);
        int men = 2 + upTo(4);
        StringBuilder t = new StringBuilder("sort sa 1;").append(houses(houses));
        int[] homes = new int[men];
        for (int m = 0; m < men; m++) {
            homes[m] = RANDOM.nextInt(houses);
            t.append("man ").append(name('m', m)).append(' ').append(name('h', homes[m]))
                    .append(":sa ").append(RANDOM.nextInt(3) == 0 ? 1 + upTo(1) : 0).append(';');
        }
        int calls = dear ? 7 : 11;
        for (int i = 0; i < calls; i++) {
            int m = RANDOM.nextInt(men);
            int h = (homes[m] + 1 + RANDOM.nextInt(houses - 1)) % houses;
            t.append("call ").append(name('m', m)).append(' ').append(name('h', h)).append(';');
        }
        HallTables town = new HallTables();
        Model model = new Model();
        read(town, model, t.toString());
        for (int h = 0; h < houses; h++) {
            DUE.is(24, "carried(0, " + h + ") in " + t, town.carried(0, h), model.carried(0, h));
            for (int what = 0; what < 4 && dear && h < 3; what++) {
                DUE.is(25, "helps(0, " + h + ", " + what + ") in " + t, town.helps(0, h, what), model.helps(0, h, what));
            }
            if (dear) {
                DUE.is(26, "turned(0, " + h + ") in " + t, town.turned(0, h), model.turned(0, h));
            }
        }
    }

    private static void visits() {
        int houses = 2 + upTo(2);
        int men = 3 + upTo(2);
        StringBuilder t = new StringBuilder("sort sa 3;sort sb 3;").append(houses(houses));
        for (int m = 0; m < men; m++) {
            t.append("man ").append(name('m', m)).append(' ').append(name('h', RANDOM.nextInt(houses)))
                    .append(":sa ").append(upTo(2)).append(",sb ").append(upTo(2)).append(';');
        }
        t.append("worth hb sb ").append(upTo(6)).append(";law ").append(LAWS[RANDOM.nextInt(3)]).append(';');
        HallTables town = new HallTables();
        Model model = new Model();
        read(town, model, t.toString());
        for (int k = 0; k < 5; k++) {
            int h = RANDOM.nextInt(houses);
            int s = RANDOM.nextInt(2);
            int n = RANDOM.nextInt(4);
            DUE.is(29, "see in " + t, town.see(h, s, n), model.see(h, s, n));
            for (int from = k; from <= k + 1; from++) {
                DUE.is(31, "fits(" + from + ") in " + t, town.fits(from), model.fits(from));
            }
            for (int at = 0; at < houses; at++) {
                DUE.is(32, "maybe at " + at + " in " + t, town.visitors(at, k + 1, false), model.visitors(at, k + 1, false));
                DUE.is(32, "surely at " + at + " in " + t, town.visitors(at, k + 1, true), model.visitors(at, k + 1, true));
            }
        }
    }

    /** All HOUSES, many DOORS, hands of all kinds. */
    private static void ways(int sorts) {
        StringBuilder t = new StringBuilder();
        for (int s = 0; s < sorts; s++) {
            t.append("sort ").append(name('s', s)).append(' ').append(upTo(9)).append(';');
        }
        t.append(houses(10));
        for (int i = 0; i < 20; i++) {
            int a = i < 10 ? i : RANDOM.nextInt(10);
            int b = (a + 1 + RANDOM.nextInt(9)) % 10;
            t.append("door ").append(name('h', a)).append(' ').append(name('h', b)).append(' ').append(1 + upTo(20)).append(';');
        }
        for (int i = upTo(6); i > 0; i--) {
            String cell = name('h', RANDOM.nextInt(10)) + " " + name('s', RANDOM.nextInt(sorts));
            t.append("shop ").append(cell).append(";worth ").append(cell).append(' ').append(upTo(9)).append(';');
        }
        for (int m = 0; m < 2; m++) {
            t.append("man ").append(name('m', m)).append(' ').append(name('h', RANDOM.nextInt(10)));
            for (int s = 0; s < sorts; s++) {
                t.append(s == 0 ? ':' : ',').append(name('s', s)).append(' ').append(upTo(3));
            }
            t.append(';');
        }
        t.append("law ").append(LAWS[RANDOM.nextInt(3)]).append(';');
        HallTables town = new HallTables();
        Model model = new Model();
        read(town, model, t.toString());
        for (int by = 0; by < 3; by++) {
            int m = RANDOM.nextInt(2);
            int h = RANDOM.nextInt(10);
            int s = RANDOM.nextInt(sorts + 1) - 1;
            for (int i = 0; i < 4; i++) {
                DUE.is(16, "step " + m + " " + h + " " + s + " " + by + " " + i + " in " + t, town.step(m, h, s, by, i), model.step(m, h, s, by, i));
            }
            for (int what = 0; what < 4; what++) {
                DUE.is(15, "way " + m + " " + h + " " + s + " " + by + " " + what + " in " + t, town.way(m, h, s, by, what), model.way(m, h, s, by, what));
            }
            for (int what = 0; what < 3; what++) {
                DUE.is(17, "rid " + m + " " + by + " " + what + " in " + t, town.rid(m, 0, by, what), model.rid(m, 0, by, what));
            }
            DUE.is(18, "get " + m + " in " + t, town.get(m, by), model.get(m, by));
            DUE.is(20, "most " + m + " " + h + " in " + t, town.most(m, h), model.most(m, h));
            int set = RANDOM.nextInt(1024) & RANDOM.nextInt(1024);
            DUE.is(23, "round " + m + " " + set + " in " + t, town.round(m, set), model.round(m, set));
        }
        DUE.is(21, "meet in " + t, town.meet(0, 1, 0), model.meet(0, 1, 0));
        DUE.is(21, "meet in " + t, town.meet(1, 0, 1), model.meet(1, 0, 1));
    }
}
