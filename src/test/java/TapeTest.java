/** Promises 2 and 3: feed and end. */
public final class TapeTest {
    public static void main(String[] args) {
        counts();
        fullTape();
        order();
        ends();
        Check.finish();
    }

    private static void counts() {
        OwnChair x = new OwnChair();
        Check.due("first feed", x.feed(0, 0, 0, 0, 0), 20);
        Check.due("second feed", x.feed(-1, Integer.MIN_VALUE, Integer.MAX_VALUE, 7, 8), 40);
        Check.due("end(33)", x.end(33), true);
        Check.due("feed behind 33", x.feed(1, 2, 3, 4, 5), 53);
    }

    private static void fullTape() {
        OwnChair x = new OwnChair();
        for (int i = 1; i <= 80; i++) {
            Check.due("feed " + i, x.feed(i, i, i, i, i), 20 * i);
        }
        Check.due("status(0) when full", x.status(0), 0);
        Check.due("feed when full", x.feed(1, 1, 1, 1, 1), -1);
        Check.due("status(0) behind it", x.status(0), 1);
        Check.due("end(1600)", x.end(1600), true);
        Check.due("end(1601)", x.end(1601), false);
        Check.due("status(0)", x.status(0), 2);
        Check.due("end(1581)", x.end(1581), true);
        Check.due("feed over the end", x.feed(1, 1, 1, 1, 1), -1);
        Check.due("end(1581) still", x.end(1581), true);
        Check.due("end(1580)", x.end(1580), true);
        Check.due("feed to the end", x.feed(1, 1, 1, 1, 1), 1600);
        Check.due("status(0) at last", x.status(0), 3);
        Check.due("a full tape is a text of 1600", x.town(), -1);
        Check.due("the tape is gone", x.end(1), false);
    }

    /** Of each number the highest byte first: an image shows the bytes, as it is read in their order. */
    private static void order() {
        OwnChair x = new OwnChair();
        // "room a door 1 flo" "or 2" ..: the letters as numbers
        Check.due("feed room", x.feed(0x726f6f6d, 0x20612064, 0x6f6f7220, 0x3120666c, 0x6f6f7220), 20);
        Check.due("feed 2;", x.feed(0x323b8081, 0xff000000, 0, 0, 0), 40);
        Check.due("end(22)", x.end(22), true);
        Check.due("town", x.town(), 1);
        Check.due("its door", x.room(0, 0), 1);
        Check.due("its floor", x.room(0, 1), 2);
        x.feed(0x323b8081, 0xff000000, 0, 0, 0);
        x.end(3);
        x.town();
        Check.due("2; is no town", x.fault(1), 0);
    }

    private static void ends() {
        OwnChair x = new OwnChair();
        Check.due("end(0) of nothing", x.end(0), true);
        Check.due("end(1) of nothing", x.end(1), false);
        Check.due("end(-1)", x.end(-1), false);
        Check.due("end(least)", x.end(Integer.MIN_VALUE), false);
        Check.due("end(most)", x.end(Integer.MAX_VALUE), false);
        Check.due("status(0)", x.status(0), 4);
        x.feed(1, 2, 3, 4, 5);
        Check.due("end(21)", x.end(21), false);
        Check.due("end(20)", x.end(20), true);
        Check.due("end(7)", x.end(7), true);
        Check.due("end(8) is no more", x.end(8), false);
        Check.due("feed behind 7", x.feed(1, 2, 3, 4, 5), 27);
        Check.due("status(0) last", x.status(0), 6);
    }
}
