/** Promises 6 to 14, 22, 33 to 35: what stands in the town, steps that are gone, held and taken back. */
final class TownTest {
    private static final Due DUE = new Due();
    private static final String TOWN = "sort pie 7; sort jam 2; sort tea 2; house inn; house mill; house farm; house kirk;"
            + "door inn mill 9; door mill farm 6; door farm inn 30; door mill inn 4;"
            + "worth mill jam 8; worth mill jam 9; worth farm tea 0; shop mill tea; shop inn pie;"
            + "hall farm jam 3; hall farm jam 2; hall kirk pie 9;"
            + "man bob inn: pie 1, jam 3, jam 2; man eve farm: tea 3; man old kirk;";

    private TownTest() {
    }

    private static void told() {
        HallTables t = Feeder.town(TOWN);
        int[] counts = {3, 4, 4, 3, 0, 0, 0, 0, 0, 0, 14, 6, -1};
        for (int what = 0; what < counts.length; what++) {
            DUE.is(35, "count(" + what + ")", t.count(what), counts[what]);
        }
        DUE.is(35, "count(-1)", t.count(-1), -1);
        DUE.is(6, "the door told last", t.door(0, 1), 4);
        DUE.is(6, "the other way", t.door(1, 0), 4);
        DUE.is(6, "inn farm", t.door(0, 2), 30);
        DUE.is(6, "no door", t.door(0, 3), 0);
        DUE.is(6, "one and the same", t.door(2, 2), -1);
        DUE.is(6, "no house 4", t.door(0, 4), -1);
        DUE.is(6, "no house -1", t.door(-1, 0), -1);
        DUE.is(7, "the worth told last", t.worth(1, 1), 9);
        DUE.is(7, "worth 0 there", t.worth(2, 2), 0);
        DUE.is(7, "its WORTH", t.worth(0, 2), 2);
        DUE.is(7, "its WORTH by NONE", t.worth(-1, 1), 2);
        DUE.is(7, "no sort", t.worth(-1, 3), -1);
        DUE.is(7, "no house", t.worth(4, 0), -1);
        DUE.is(7, "house -2", t.worth(-2, 0), -1);
        DUE.is(7, "sort NONE", t.worth(0, -1), -1);
        DUE.is(8, "halls add up", t.table(2, 1), 5);
        DUE.is(8, "kirk", t.table(3, 0), 9);
        DUE.is(8, "nothing", t.table(0, 0), 0);
        DUE.is(8, "no house", t.table(4, 0), -1);
        DUE.is(8, "no sort", t.table(0, -1), -1);
        int[] bob = {0, 0, 3, 0, 0, -1};
        for (int what = 0; what < bob.length; what++) {
            DUE.is(9, "man(0, " + what + ")", t.man(0, what), bob[what]);
        }
        DUE.is(9, "man(0, -1)", t.man(0, -1), -1);
        DUE.is(9, "no man", t.man(3, 0), -1);
        DUE.is(9, "eve's home", t.man(1, 1), 2);
        DUE.is(10, "the last one told of it", t.has(0, 1), 2);
        DUE.is(10, "none of it", t.has(0, 2), 0);
        DUE.is(10, "eve's tea", t.has(1, 2), 3);
        DUE.is(10, "no man", t.has(-1, 0), -1);
        DUE.is(10, "no sort", t.has(0, 3), -1);
        DUE.is(22, "riches of the farm", t.riches(2), 10);
        DUE.is(22, "riches of the kirk", t.riches(3), 63);
        DUE.is(22, "poorest", t.riches(-1), 0);
        DUE.is(22, "no house", t.riches(4), -1);
        DUE.is(22, "house -2", t.riches(-2), -1);
    }

    private static void steps() {
        HallTables t = Feeder.town(TOWN);
        DUE.is(12, "no door", t.go(0, 3, 0), 1);
        DUE.is(12, "to where he is", t.go(0, 0, -1), 1);
        DUE.is(12, "he has no tea", t.go(0, 1, 2), 3);
        DUE.is(12, "no sort", t.go(0, 1, 3), -1);
        DUE.is(12, "no sort -2", t.go(0, 1, -2), -1);
        DUE.is(12, "no house", t.go(0, 4, 0), -1);
        DUE.is(12, "no man", t.go(3, 1, 0), -1);
        DUE.is(12, "nothing left", t.go(0, 1, -1), 3);
        DUE.is(35, "nothing happened", t.count(7), 0);
        DUE.is(12, "jam at the mill", t.go(0, 1, 1), 0);
        DUE.is(9, "where he is", t.man(0, 0), 1);
        DUE.is(9, "things", t.man(0, 2), 2);
        DUE.is(9, "minutes", t.man(0, 3), 4);
        DUE.is(9, "loss", t.man(0, 4), 9);
        DUE.is(8, "it lies there", t.table(1, 1), 1);
        DUE.is(10, "one jam", t.has(0, 1), 1);
        DUE.is(13, "pie is not sold there", t.buy(0, 0), 1);
        DUE.is(13, "no sort", t.buy(0, 3), -1);
        DUE.is(13, "no man", t.buy(-1, 0), -1);
        DUE.is(13, "tea", t.buy(0, 2), 0);
        DUE.is(13, "tea", t.buy(0, 2), 0);
        DUE.is(13, "tea", t.buy(0, 2), 0);
        DUE.is(13, "a fourth", t.buy(0, 2), 2);
        DUE.is(9, "a minute each", t.man(0, 3), 7);
        DUE.is(9, "no loss by it", t.man(0, 4), 9);
        DUE.is(12, "a thing left at home", t.go(0, 0, 0), 3);
        DUE.is(12, "home", t.go(0, 0, -1), 0);
        DUE.is(10, "nothing is left at home", t.man(0, 2), 5);
        DUE.is(9, "minutes", t.man(0, 3), 11);
        DUE.is(12, "eve home to the inn", t.go(1, 0, 2), 0);
        DUE.is(12, "eve to the mill", t.go(1, 1, 2), 0);
        DUE.is(12, "eve to the inn", t.go(1, 0, 2), 0);
        DUE.is(12, "eve has nothing", t.go(1, 1, 2), 2);
        DUE.is(12, "eve has nothing, wherever", t.go(1, 3, 2), 1);
        DUE.is(12, "home with nothing", t.go(1, 2, -1), 0);
        DUE.is(9, "her minutes", t.man(1, 3), 30 + 4 + 4 + 30);
        DUE.is(9, "her loss", t.man(1, 4), 6);
        DUE.is(35, "steps", t.count(7), 9);
        DUE.is(35, "on tables", t.count(10), 18);
        DUE.is(35, "carried", t.count(11), 5);
        DUE.is(22, "riches of the inn", t.riches(0), 4);
        for (int i = 0; i < 9; i++) {
            DUE.is(14, "undo", t.undo(), true);
        }
        DUE.is(14, "no more", t.undo(), false);
        DUE.is(9, "back home", t.man(0, 0), 0);
        DUE.is(9, "no minutes", t.man(0, 3) + t.man(1, 3), 0);
        DUE.is(9, "no loss", t.man(0, 4) + t.man(1, 4), 0);
        DUE.is(10, "tea", t.has(1, 2), 3);
        DUE.is(8, "as in the beginning", t.table(1, 1), 0);
        DUE.is(35, "on tables", t.count(10), 14);
    }

    private static void lawful() {
        String town = "sort s 3; sort t 3; sort u 9; house a; house b; house c; door a b 1; door b c 1; worth c s 9;"
                + "man m a: s 1, t 1, u 1; man n b; law ";
        int[][] at = {{1, 1, 1, 1, 1, 1}, {0, 0, 1, 1, 0, 0}, {1, 0, 0, 0, 1, 0}};
        String[] laws = {"any", "dearest", "cheapest"};
        for (int law = 0; law < 3; law++) {
            HallTables t = Feeder.town(town + laws[law] + ";");
            for (int i = 0; i < 6; i++) {
                DUE.is(11, laws[law] + " may(0, " + (1 + i / 3) + ", " + i % 3, t.may(0, 1 + i / 3, i % 3), at[law][i]);
            }
            DUE.is(11, "his HOME", t.may(0, 0, 0), -1);
            DUE.is(11, "no house", t.may(0, 3, 0), -1);
            DUE.is(11, "no sort", t.may(0, 1, 3), -1);
            DUE.is(11, "sort NONE", t.may(0, 1, -1), -1);
            DUE.is(11, "no man", t.may(2, 1, 0), -1);
            DUE.is(11, "he has nothing", t.may(1, 0, 0), 0);
            DUE.is(12, "t at b", t.go(0, 1, 1), law == 0 ? 0 : 3);
            DUE.is(12, "u at b", t.go(0, 1, 2), law == 1 ? 0 : law == 0 ? 1 : 3);
        }
        HallTables last = Feeder.town(town + "dearest; law cheapest; law any; law dearest;");
        DUE.is(35, "the last law", last.count(5), 1);
    }

    private static void sixtySteps() {
        HallTables t = Feeder.town("sort s 1; house a; house b; door a b 2; shop b s; man m a: s 1;");
        DUE.is(12, "go", t.go(0, 1, 0), 0);
        for (int i = 0; i < 30; i++) {
            DUE.is(13, "buy", t.buy(0, 0), 0);
            DUE.is(12, "home", t.go(0, 0, -1), 0);
            DUE.is(12, "and back", t.go(0, 1, 0), 0);
            DUE.is(35, "steps", t.count(7), Math.min(60, 3 * i + 4));
        }
        DUE.is(9, "minutes", t.man(0, 3), 2 + 30 * 5);
        DUE.is(9, "loss", t.man(0, 4), 31);
        for (int i = 60; i > 0; i--) {
            DUE.is(35, "steps", t.count(7), i);
            DUE.is(14, "undo", t.undo(), true);
        }
        DUE.is(14, "undo of the 61st", t.undo(), false);
        DUE.is(9, "minutes", t.man(0, 3), 2 + 10 * 5);
        DUE.is(8, "table", t.table(1, 0), 11);
        DUE.is(13, "and on", t.buy(0, 0), 0);
        DUE.is(35, "one step", t.count(7), 1);
    }

    private static void slots() {
        HallTables t = Feeder.town(TOWN);
        DUE.is(34, "nothing is held", t.restore(0), false);
        DUE.is(33, "no slot 3", t.hold(3), false);
        DUE.is(33, "no slot -1", t.hold(-1), false);
        DUE.is(34, "no slot 3", t.restore(3), false);
        DUE.is(34, "no slot -1", t.restore(-1), false);
        DUE.is(35, "none", t.count(9), 0);
        t.go(0, 1, 1);
        DUE.is(33, "hold", t.hold(2), true);
        DUE.is(33, "hold again", t.hold(2), true);
        DUE.is(35, "one", t.count(9), 1);
        DUE.is(35, "steps stay", t.count(7), 1);
        t.go(0, 2, 0);
        t.buy(0, 2);
        DUE.is(34, "another holds nothing", t.restore(1), false);
        DUE.is(14, "steps stay then", t.undo(), true);
        t.go(0, 2, 1);
        DUE.is(34, "restore", t.restore(2), true);
        DUE.is(9, "at the mill", t.man(0, 0), 1);
        DUE.is(9, "minutes", t.man(0, 3), 4);
        DUE.is(9, "loss", t.man(0, 4), 9);
        DUE.is(10, "pie", t.has(0, 0), 1);
        DUE.is(8, "farm", t.table(2, 0), 0);
        DUE.is(8, "mill", t.table(1, 1), 1);
        DUE.is(14, "nothing can be taken back", t.undo(), false);
        t.go(0, 0, -1);
        DUE.is(34, "it stays there", t.restore(2), true);
        DUE.is(9, "at the mill again", t.man(0, 0), 1);
        t.see(0, 0, 1);
        DUE.is(34, "restore", t.restore(2), true);
        DUE.is(35, "SEEN stays", t.count(8), 1);
        DUE.is(33, "hold", t.hold(0), true);
        DUE.is(35, "two", t.count(9), 2);
    }

    private static void poorest() {
        HallTables t = Feeder.town("sort s 4; sort z 0; house a; house b; house c; door a b 1; hall a s 2; hall b z 9;"
                + "hall b s 1; hall c s 1; man m c;");
        DUE.is(22, "of alike ones the first", t.riches(-1), 1);
        DUE.is(22, "what is worth nothing", t.riches(1), 4);
        DUE.is(22, "a", t.riches(0), 8);
        DUE.is(22, "without houses", Feeder.town("sort s 1;").riches(-1), -2);
    }

    public static void main(String[] args) {
        told();
        steps();
        lawful();
        sixtySteps();
        slots();
        poorest();
        DUE.end();
    }
}
