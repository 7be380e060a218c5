/** Promises 1 to 5: the boundaries of a new object, feed, end, town and fault. */
public final class BoundsTapeTest {
    private static final int LEAST = Integer.MIN_VALUE;
    private static final int MOST = Integer.MAX_VALUE;
    private static final String A = "room a door 9 floor 99;";

    public static void main(String[] args) {
        newObject();
        feedCounts();
        feedOrder();
        moreThanTheMost();
        endsOfATape();
        refusedEnds();
        towns();
        townsWithFaults();
        allAsAtFirst();
        faults();
        Check.finish();
    }

    private static void newObject() {
        Check.sentence("`NONE = -1`: None; refused.");
        Check.due("NONE", OwnChair.NONE, -1);
        Check.due("none", new OwnChair().has(11), OwnChair.NONE);
        Check.due("refused", new OwnChair().days(0), OwnChair.NONE);
        Check.sentence("No ROOMS, nobody; the seed is 1.");
        OwnChair x = new OwnChair();
        Check.due("ROOMS", x.has(0), 0);
        Check.due("PEOPLE", x.has(1), 0);
        Check.due("the seed", x.has(10), 1);
        Check.due("nothing on the tape", Look.tapeLength(x), 0);
        for (int what = 0; what < 6; what++) {
            Check.due("status(" + what + ")", x.status(what), 0);
        }
        OwnChair emptied = new OwnChair();
        Check.due("an empty text", emptied.town(), 0);
        Look.at(x).same("a new object is as a town without statements", Look.at(emptied));
        OwnChair other = Check.made(A);
        Check.due("another object has its own", x.has(0) + 10 * other.has(0), 10);
    }

    private static void feedCounts() {
        Check.sentence("Twenty bytes come behind those on the tape");
        OwnChair x = new OwnChair();
        for (int i = 1; i <= 80; i++) {
            Check.due("feed " + i, x.feed(i, -i, LEAST, MOST, 0), 20 * i);
        }
        Check.due("status(0)", x.status(0), 0);
        OwnChair y = new OwnChair();
        y.feed(0, 0, 0, 0, 0);
        y.end(7);
        Check.due("behind those that are left", y.feed(0, 0, 0, 0, 0), 27);
        y.end(0);
        Check.due("behind none", y.feed(0, 0, 0, 0, 0), 20);
    }

    private static void feedOrder() {
        Check.sentence("of each number the highest first");
        OwnChair x = new OwnChair();
        // "breaks 45;" at the tape's end, each letter at its place
        x.feed(0x20202020, 0x0a0a0a0a, 0x20206272, 0x65616b73, 0x2034353b);
        Check.due("town", x.town(), 1);
        Check.due("breaks", x.has(2), 45);
        // the highest bit of each byte is no sign: 0xff is a byte above all
        x.feed(0xff626262, 0, 0, 0, 0);
        x.end(1);
        x.town();
        Check.due("0xff is no blank", x.fault(0) * 10 + x.fault(1), 10);
        // an image of nobody is the byte 113, here as the lowest, the third, the second and the highest byte
        for (int k = 0; k < 4; k++) {
            OwnChair y = new OwnChair();
            y.feed(113 << 8 * k, 0, 0, 0, 0);
            y.end(1);
            Check.due("113 as byte " + (3 - k), y.on(), k == 3);
        }
    }

    private static void moreThanTheMost() {
        Check.sentence("NONE, refused (0), if there would be more than 1600.");
        for (int left = 0; left <= 21; left++) {
            OwnChair x = new OwnChair();
            Check.tape(x, "slow " + "1+".repeat(797) + "1");
            Check.due("a full tape", x.end(1600), true);
            Check.due("cut", x.end(1600 - left), true);
            boolean room = left >= 20;
            Check.due("feed with room for " + left, x.feed(0x20202020, 0x20202020, 0x20202020, 0x20202020, 0x20202020),
                room ? 1620 - left : -1);
            Check.due("status(0)", x.status(0), room ? 0 : 1);
            Check.due("a SUM that ends too soon", x.town(), -1);
            Check.due("its end", x.fault(1), room ? 1620 - left : 1600 - left);
        }
        OwnChair y = new OwnChair();
        for (int i = 0; i < 80; i++) {
            y.feed(0x20202020, 0x20202020, 0x20202020, 0x20202020, 0x20202020);
        }
        Look ahead = Look.at(y);
        for (int i = 1; i <= 3; i++) {
            Check.due("feed on a full tape", y.feed(LEAST, MOST, -1, 0, 1), -1);
            Check.due("status(0)", y.status(0), i);
        }
        ahead.same("feed on a full tape", Look.at(y));
        Check.due("all 1600 blanks are a town", y.town(), 0);
    }

    private static void endsOfATape() {
        Check.sentence("The tape has its first n bytes alone: true;");
        OwnChair x = new OwnChair();
        Check.due("none of none", x.end(0), true);
        Check.tape(x, "breaks 1;breaks 2;breaks");
        Check.due("all of them", x.end(24), true);
        Check.due("as many as before", Look.tapeLength(x), 24);
        Check.due("but some", x.end(18), true);
        Check.due("the first ones", x.town(), 2);
        Check.tape(x, "breaks 1;");
        Check.due("end(0)", x.end(0), true);
        Check.due("nothing", x.town(), 0);
        Check.due("the first breaks is gone", x.has(2), 0);
    }

    private static void refusedEnds() {
        Check.sentence("false, refused (0), if it has not so many, or n is below 0.");
        OwnChair x = Check.made(A);
        int[] empty = {1, -1, 1600, 1601, LEAST, MOST};
        for (int n : empty) {
            Look.refused("end(" + n + ") of none", x, 0, 0, y -> Look.bit(y.end(n)));
        }
        Check.tape(x, "breaks 1;breaks 2;");
        int[] wrong = {19, 20, -1, LEAST, MOST};
        for (int n : wrong) {
            Look.refused("end(" + n + ") of 18", x, 0, 0, y -> Look.bit(y.end(n)));
        }
        Check.due("what was there is there", x.town(), 2);
        Check.due("and nothing else", x.has(2), 2);
    }

    private static void towns() {
        Check.sentence("The tape (it goes) is THE TOWN: how many STATEMENTS;");
        OwnChair x = new OwnChair();
        int[] many = {0, 1, 2, 79, 80};
        for (int n : many) {
            Check.tape(x, "breaks 1;".repeat(n));
            Check.due(n + " statements", x.town(), n);
            Check.due("the tape is gone", Look.tapeLength(x), 0);
        }
        Check.due("status(1)", x.status(1), 0);
    }

    private static void townsWithFaults() {
        Check.sentence("NONE, refused (1), with a FAULT (all stays).");
        String[] texts = {"!", "room a", A + "room a", "way x", "breaks 101", "slow ((((((((1", "slow 1;slow 2;",
            "breaks 1;".repeat(80) + "!", "room z door 9 floor 9;person y strong 9 chair 9 wide 9 at z;breaks 99;slow 9;stands 9;x"};
        for (String text : texts) {
            OwnChair x = BoundsTown.busy();
            Check.tape(x, text);
            Look.refusedWithTape("town of " + text, x, 1, OwnChair::town);
            Check.due("its fault", x.fault(0) > 0 && x.fault(1) >= 0, true);
            int acts = x.has(9);
            for (int i = 0; i < acts; i++) {
                Check.due("undo", x.undo(), true);
            }
            Look.at(BoundsTown.untouched()).same("all acts undone behind a fault", Look.at(x), BoundsTown.TOLD);
        }
    }

    private static void allAsAtFirst() {
        Check.sentence("Without one all is as at first, nothing is KEPT, no STANDING, no ERRAND is told, no ACT can be undone; "
            + "the seed stays.");
        OwnChair x = BoundsTown.busy();
        int seed = x.has(10);
        Check.due("busy: kept", x.has(8) > 0, true);
        Check.due("busy: acts", x.has(9) > 0, true);
        Check.due("busy: along", x.along(0) >= 0, true);
        Check.due("busy: where", x.where(0, 0) >= 0, true);
        Check.due("the same text", Check.town(x, BoundsTown.TEXT) > 0, true);
        Check.due("nothing is KEPT", x.has(8), 0);
        Check.due("none is told", x.kept(0, 0), -1);
        Check.due("no STANDING", x.where(0, 0), -1);
        Check.due("no ERRAND", x.along(0), -1);
        Check.due("no ACT", x.has(9), 0);
        Check.due("the seed stays", x.has(10), seed);
        OwnChair first = Check.made(BoundsTown.TEXT);
        first.seed(seed);
        Look.at(first).same("as a new object with this text", Look.at(x), BoundsTown.OCTETS);
        Check.due("undo", x.undo(), false);
        nothingOfEarlierTowns();
        Check.due("an empty text", Check.town(x, ""), 0);
        OwnChair none = new OwnChair();
        none.seed(seed);
        Look.at(none).same("as a new object", Look.at(x), BoundsTown.OCTETS);
    }

    /** Names, ways, chairs at home, sums and a carpenter of towns that are gone: of the last one and of the one ahead of it. */
    private static void nothingOfEarlierTowns() {
        String full = "room a door 9 floor 5;room b door 9 floor 5;way a b takes 1;person p strong 1 chair 1 wide 5 at a;"
            + "person q strong 1 chair 1 wide 5 at b;joined p q;slow 7;stands 8;breaks 9;carpenter b;";
        OwnChair x = new OwnChair();
        for (int i = 0; i < 4; i++) {
            Check.due("the same text again", Check.town(x, full), 10);
            Check.due("its fault", x.fault(0), 0);
        }
        String[] asks = {"way a b takes 1;", "carpenter b;", "person r strong 1 chair 1 wide 1 at b;", "joined p q;", "joined q p;"};
        for (String ask : asks) {
            Check.due("a name that is gone: " + ask, Check.town(x, "room a door 9 floor 5;" + ask), -1);
            Check.due("its fault", x.fault(0), 3);
        }
        String bare = "room a door 9 floor 5;room b door 9 floor 5;person p strong 1 chair 1 wide 1 at a;"
            + "person q strong 1 chair 1 wide 4 at a;";
        for (int i = 0; i < 3; i++) {
            Check.due("a text with less", Check.town(x, bare), 4);
            Check.due("no way", x.way(0, 1), -1);
            Check.due("nobody is joined", x.person(0, 6) + x.person(1, 6), -2);
            Check.due("no breaks, no carpenter", x.has(2) * 10 + x.has(3), -1);
            Check.due("a way", Check.town(x, bare + "way a b takes 3;"), 5);
            Check.due("no slow", x.takes(0, 1, 0), 3);
            x.go(0, 1, -1);
            Check.due("no stands", x.stay(0, 5), 5);
        }
    }

    private static void faults() {
        Check.sentence("Of the latest town(): its FAULT (what 0; 0 without, and ahead of any), its place (1; NONE without). "
            + "NONE for another what.");
        OwnChair x = new OwnChair();
        told(x, 0, -1);
        Check.town(x, "!");
        told(x, 1, 0);
        Check.town(x, A + "room a");
        told(x, 2, 28);
        Check.town(x, "carpenter x;");
        told(x, 3, 10);
        Check.town(x, "breaks 101;");
        told(x, 4, 7);
        Check.town(x, "slow ((((((((1");
        told(x, 5, 12);
        Check.town(x, "stands 1;stands 1;");
        told(x, 6, 9);
        Check.town(x, " ".repeat(1596) + "room");
        told(x, 1, 1600);
        Check.town(x, "");
        told(x, 0, -1);
        Check.due("status(1)", x.status(1), 7);
    }

    private static void told(OwnChair x, int fault, int place) {
        Check.due("fault(0)", x.fault(0), fault);
        Check.due("fault(1)", x.fault(1), place);
        int[] others = {2, -1, 3, LEAST, MOST};
        for (int what : others) {
            Check.due("fault(" + what + ")", x.fault(what), -1);
        }
    }
}
