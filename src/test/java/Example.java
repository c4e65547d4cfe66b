/** The example of README.md: it stands there to the letter, and so does what it prints. */
final class Example {
    private Example() {
    }

    /** A text comes on the tape by twenty bytes a call; the blanks that fill up the last call go again. */
    private static void tell(HallTables town, String text) {
        int blanks = (20 - text.length() % 20) % 20;
        String whole = text + " ".repeat(blanks);
        for (int at = 0; at < whole.length(); at += 20) {
            int[] fours = new int[5];
            for (int i = 0; i < 20; i++) {
                fours[i / 4] = fours[i / 4] << 8 | whole.charAt(at + i);
            }
            town.feed(fours[0], fours[1], fours[2], fours[3], fours[4]);
        }
        town.back(blanks);
    }

    public static void main(String[] args) {
        HallTables town = new HallTables();
        tell(town, "sort apple 3; sort bread 5; house mill; house inn; house barn;"
                + "door mill inn 5; door inn barn 2; shop inn bread; worth barn apple 9;"
                + "man tom mill: apple 2; man ann barn: apple 1; call tom inn; call ann inn;");
        System.out.println(town.read());               // 0: no FAULT, the town is as told
        System.out.println(town.way(0, 2, 1, 1, 1));   // 8: MINUTES till tom is at the barn with bread
        System.out.println(town.step(0, 2, 1, 1, 0));  // 10: first to the inn, an apple is left there
        System.out.println(town.step(0, 2, 1, 1, 1));  // 101: then bread is bought
        System.out.println(town.step(0, 2, 1, 1, 2));  // 20: then to the barn, the other apple is left there
        System.out.println(town.step(0, 2, 1, 1, 3));  // -1: there is no fourth step
        System.out.println(town.get(1, 0));            // -2: nowhere can ann buy an apple
        System.out.println(town.get(1, 2));            // -1: there is no such sort
        System.out.println(town.go(0, 1, 0));          // 0: tom goes to the inn, leaving an apple
        System.out.println(town.table(1, 0));          // 1: it lies there
        System.out.println(town.carried(0, 1));        // 2: apples at the inn when all CALLS are paid
    }
}
