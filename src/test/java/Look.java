/** All that calls which change nothing tell of a town, a line each: two looks tell whether something happened. */
final class Look {
    private final HallTables town;
    private final StringBuilder lines = new StringBuilder();

    private Look(HallTables town) {
        this.town = town;
    }

    /** All but the tape and the place of the latest FAULT. */
    static String at(HallTables town) {
        Look look = new Look(town);
        look.counts();
        look.houses();
        look.men();
        look.known();
        return look.lines.toString();
    }

    private void line(String call, long answer) {
        lines.append(call).append(" = ").append(answer).append('\n');
    }

    private void counts() {
        for (int what = 0; what < 12; what++) {
            if (what != 6) {
                line("count " + what, town.count(what));
            }
        }
        for (int what = 0; what < 4; what++) {
            line("year " + what, town.year(3, 9, what));
            line("rest " + what, town.rest(what));
        }
    }

    private void houses() {
        for (int house = -1; house <= town.count(1); house++) {
            line("riches " + house, town.riches(house));
            for (int other = 0; other < town.count(1); other++) {
                line("door " + house + " " + other, town.door(house, other));
            }
            for (int sort = 0; sort <= town.count(0); sort++) {
                String at = " " + house + " " + sort;
                line("worth" + at, town.worth(house, sort));
                line("table" + at, town.table(house, sort));
                line("carried" + at, town.carried(sort, house));
                line("helps" + at, town.helps(sort, house, 0));
                line("turned" + at, town.turned(sort, house));
            }
        }
    }

    private void men() {
        for (int man = 0; man <= town.count(3); man++) {
            for (int what = 0; what < 5; what++) {
                line("man " + man + " " + what, town.man(man, what));
            }
            line("inReach " + man, town.inReach(man));
            for (int sort = 0; sort <= town.count(0); sort++) {
                line("has " + man + " " + sort, town.has(man, sort));
                line("get " + man + " " + sort, town.get(man, sort));
                line("rid " + man + " " + sort, town.rid(man, sort, 0, 1));
            }
            for (int house = 0; house < town.count(1); house++) {
                line("may " + man + " " + house, town.may(man, house, 0));
                line("way " + man + " " + house, town.way(man, house, -1, 1, 1));
                line("step " + man + " " + house, town.step(man, house, -1, 2, 0));
                line("round " + man + " " + house, town.round(man, 1 << house));
            }
        }
    }

    private void known() {
        for (int k = 0; k <= town.count(8); k++) {
            line("fits " + k, town.fits(k));
        }
    }
}
