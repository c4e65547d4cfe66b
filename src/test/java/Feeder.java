import java.nio.charset.StandardCharsets;

/** Puts texts on the tape of a town. */
final class Feeder {
    private Feeder() {
    }

    /** Feeds a text (signs 0 to 255), filled up to twenties and taken back again; the tape's length. */
    static int feed(HallTables town, String text) {
        byte[] bytes = text.getBytes(StandardCharsets.ISO_8859_1);
        int fed = (bytes.length + 19) / 20 * 20;
        int[] fives = new int[fed / 4];
        for (int i = 0; i < fed; i++) {
            int b = i < bytes.length ? bytes[i] & 255 : ' ';
            fives[i / 4] |= b << 24 - 8 * (i % 4);
        }
        int length = town.count(6);
        for (int i = 0; i < fives.length; i += 5) {
            length = town.feed(fives[i], fives[i + 1], fives[i + 2], fives[i + 3], fives[i + 4]);
        }
        return fed == bytes.length ? length : town.back(fed - bytes.length);
    }

    static int read(HallTables town, String text) {
        feed(town, text);
        return town.read();
    }

    static HallTables town(String text) {
        HallTables town = new HallTables();
        int fault = read(town, text);
        if (fault != 0) {
            throw new IllegalStateException("fault " + fault + " at " + town.place() + " of: " + text);
        }
        return town;
    }
}
