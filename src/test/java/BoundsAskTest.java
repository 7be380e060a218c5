/** Promises 6 to 12: what has, letter, room, way, person, fits and takes answer at their first and last ones, and beside them. */
public final class BoundsAskTest {
    private static final int LEAST = Integer.MIN_VALUE;
    private static final int MOST = Integer.MAX_VALUE;
    private static final int[] BESIDE_EIGHT = {-1, 8, 9, 255, LEAST, MOST};

    public static void main(String[] args) {
        counts();
        countsOfNothing();
        countsAtTheirMost();
        letters();
        rooms();
        ways();
        persons();
        widthForDoors();
        fitsByDoor();
        fitsByFloor();
        fitsNone();
        sits();
        takes();
        takesNone();
        Check.finish();
    }

    /** Eight rooms and eight people, each at a room of his own, the most there can be. */
    private static String eight() {
        StringBuilder text = new StringBuilder();
        for (int i = 0; i < 8; i++) {
            text.append("room r").append((char) ('a' + i)).append(" door ").append(i + 2).append(" floor ").append(92 + i)
                .append(";");
        }
        for (int i = 0; i < 8; i++) {
            text.append("person p").append((char) ('a' + i)).append(" strong ").append(92 + i).append(" chair ").append(i + 1)
                .append(" wide ").append(i + 2 > 9 ? 9 : i + 2).append(" at r").append((char) ('a' + i)).append(";");
        }
        return text.toString();
    }

    private static void counts() {
        Check.sentence("How many there are: 0 ROOMS, 1 PEOPLE, 2 breaks, 3 the carpenter's ROOM (NONE), 4 PEOPLE who SIT, "
            + "5 broken chairs, 6 the latest CLOCK, 7 ACHES together, 8 those told as KEPT, 9 ACTS that can be undone, 10 the seed. "
            + "NONE for others.");
        OwnChair x = BoundsTown.busy();
        int[] due = {4, 4, 50, BoundsTown.SHOP, 2, 1, 43, 68, 2, 6, x.has(10)};
        for (int what = 0; what < due.length; what++) {
            Check.due("has(" + what + ")", x.has(what), due[what]);
        }
        int[] others = {-1, 11, 12, -2, LEAST, MOST};
        for (int what : others) {
            Look.silent("has(" + what + ")", x, -1, y -> y.has(what));
        }
    }

    private static void countsOfNothing() {
        Check.sentence("3 the carpenter's ROOM (NONE)");
        OwnChair x = new OwnChair();
        int[] due = {0, 0, 0, -1, 0, 0, 0, 0, 0, 0, 1, -1};
        for (int what = 0; what < due.length; what++) {
            Check.due("has(" + what + ") of nothing", x.has(what), due[what]);
        }
        OwnChair rooms = Check.made("room a door 1 floor 1;");
        Check.due("no carpenter", rooms.has(3), -1);
        OwnChair carpenter = Check.made("room a door 1 floor 1;carpenter a;");
        Check.due("in the first ROOM", carpenter.has(3), 0);
    }

    private static void countsAtTheirMost() {
        Check.sentence("4 PEOPLE who SIT, 5 broken chairs, 6 the latest CLOCK, 7 ACHES together");
        OwnChair x = Check.made(eight());
        Check.due("ROOMS", x.has(0), 8);
        Check.due("PEOPLE", x.has(1), 8);
        Check.due("all SIT", x.has(4), 8);
        int[] image = new int[73];
        for (int i = 0; i < 8; i++) {
            int[] row = {7, i, 1, 1, 134, 159, 1, 134, 159};
            System.arraycopy(row, 0, image, 9 * i, 9);
        }
        Check.due("on", Check.on(x, Check.sealed(image)), true);
        Check.due("nobody SITS", x.has(4), 0);
        Check.due("all are broken", x.has(5), 8);
        Check.due("the latest CLOCK", x.has(6), 99999);
        Check.due("ACHES together are more than one may have", x.has(7), 8 * 99999);
        // the latest CLOCK may be anyone's, and no ACHE is taken for one
        for (int late = 0; late < 8; late++) {
            int[] other = new int[73];
            for (int i = 0; i < 8; i++) {
                int[] row = {i, i, 0, 0, i == late ? 4 : 3, i, 1, 0, i};
                System.arraycopy(row, 0, other, 9 * i, 9);
            }
            Check.due("on", Check.on(x, Check.sealed(other)), true);
            Check.due("the latest CLOCK is that of " + late, x.has(6), 1024 + late);
            Check.due("ACHES together", x.has(7), 8 * 65536 + 28);
            Check.due("none is broken", x.has(5), 0);
        }
    }

    private static void letters() {
        Check.sentence("Letter k (0 .. 5) of the NAME of a ROOM (kind 0), one of the PEOPLE (1): 1 .. 26; 0 behind it; "
            + "NONE when there is none such.");
        OwnChair x = Check.made("room a door 9 floor 9;room zyxwva door 9 floor 9;room bcdez door 9 floor 9;"
            + "person z strong 1 chair 1 wide 1 at a;person azazaz strong 1 chair 1 wide 1 at a;");
        int[][] rooms = {{1, 0, 0, 0, 0, 0}, {26, 25, 24, 23, 22, 1}, {2, 3, 4, 5, 26, 0}};
        int[][] people = {{26, 0, 0, 0, 0, 0}, {1, 26, 1, 26, 1, 26}};
        for (int k = 0; k < 6; k++) {
            for (int which = 0; which < 3; which++) {
                Check.due("letter(0, " + which + ", " + k + ")", x.letter(0, which, k), rooms[which][k]);
            }
            for (int which = 0; which < 2; which++) {
                Check.due("letter(1, " + which + ", " + k + ")", x.letter(1, which, k), people[which][k]);
            }
        }
        int[][] none = {{0, 0, -1}, {0, 0, 6}, {0, 1, 6}, {0, 0, LEAST}, {0, 0, MOST}, {1, 1, -1}, {1, 1, 6}, {0, 3, 0}, {0, -1, 0},
            {1, 2, 0}, {1, -1, 0}, {2, 0, 0}, {-1, 0, 0}, {0, LEAST, 0}, {0, MOST, 5}, {1, MOST, 5}, {LEAST, 0, 0}, {MOST, 0, 0}};
        for (int[] n : none) {
            Look.silent("letter(" + n[0] + ", " + n[1] + ", " + n[2] + ")", x, -1, y -> y.letter(n[0], n[1], n[2]));
        }
        OwnChair most = Check.made(eight());
        Check.due("the eighth ROOM", most.letter(0, 7, 1), 8);
        Check.due("the eighth of the PEOPLE", most.letter(1, 7, 1), 8);
        for (int which : BESIDE_EIGHT) {
            Check.due("ROOM " + which, most.letter(0, which, 0), -1);
            Check.due("one " + which, most.letter(1, which, 0), -1);
        }
    }

    private static void rooms() {
        Check.sentence("Of a ROOM: 0 door, 1 floor, 2 how wide all chairs there are together, 3 PEOPLE there, as bits, "
            + "4 chairs there, as bits, 5 PEOPLE who SIT there, as bits. NONE when there is none such, or for others.");
        OwnChair x = BoundsTown.busy();
        // ann sits in the hall with bob's and cy's chairs, cy and di in the shop, bob in the attic
        int[][] due = {{6, 20, 9, 1, 7, 1}, {4, 9, 1, 12, 8, 8}, {2, 5, 0, 2, 0, 0}, {9, 99, 0, 0, 0, 0}};
        for (int room = 0; room < 4; room++) {
            for (int what = 0; what < 6; what++) {
                Check.due("room(" + room + ", " + what + ")", x.room(room, what), due[room][what]);
            }
        }
        int[][] none = {{4, 0}, {-1, 0}, {0, 6}, {0, -1}, {3, 6}, {LEAST, 0}, {MOST, 5}, {0, LEAST}, {0, MOST}, {7, 3}, {8, 4}};
        for (int[] n : none) {
            Look.silent("room(" + n[0] + ", " + n[1] + ")", x, -1, y -> y.room(n[0], n[1]));
        }
        OwnChair most = Check.made(eight());
        Check.due("the eighth one's bit", most.room(7, 3) + most.room(7, 4) + most.room(7, 5), 3 * 128);
        Check.due("the eighth door", most.room(7, 0), 9);
        Check.due("the eighth floor", most.room(7, 1), 99);
        for (int room : BESIDE_EIGHT) {
            Check.due("room(" + room + ", 0)", most.room(room, 0), -1);
        }
    }

    private static void ways() {
        Check.sentence("What the way between two ROOMS takes; NONE without one, or when there are none such.");
        OwnChair x = BoundsTown.busy();
        int[][] due = {{-1, 5, 20, -1}, {5, -1, 7, -1}, {20, 7, -1, -1}, {-1, -1, -1, -1}};
        for (int from = 0; from < 4; from++) {
            for (int to = 0; to < 4; to++) {
                Check.due("way(" + from + ", " + to + ")", x.way(from, to), due[from][to]);
            }
        }
        int[][] none = {{0, 4}, {4, 0}, {0, -1}, {-1, 0}, {0, 8}, {0, 9}, {1, -7}, {LEAST, 0}, {0, MOST}, {MOST, LEAST}};
        for (int[] n : none) {
            Look.silent("way(" + n[0] + ", " + n[1] + ")", x, -1, y -> y.way(n[0], n[1]));
        }
        OwnChair most = Check.made(eight() + "way ra rh takes 60;way rg rh takes 1;");
        Check.due("from the first to the eighth", most.way(0, 7), 60);
        Check.due("from the eighth to the seventh", most.way(7, 6), 1);
        for (int room : BESIDE_EIGHT) {
            Check.due("way(7, " + room + ")", most.way(7, room), -1);
            Check.due("way(" + room + ", 7)", most.way(room, 7), -1);
        }
    }

    private static void persons() {
        Check.sentence("Of one of the PEOPLE: 0 ROOM, 1 his chair's ROOM, 2 whether it is broken, 3 whether he SITS, 4 CLOCK, 5 ACHE, "
            + "6 who is joined to him (NONE), 7 strong, 8 his chair's weight, 9 its width, 10 its width for doors. "
            + "NONE when there is none such, or for others.");
        OwnChair x = BoundsTown.busy();
        int[][] due = {{0, 0, 0, 1, 10, 0, 1, 10, 20, 2, 5}, {2, 0, 0, 0, 24, 8, 0, 30, 6, 3, 5},
            {1, 0, 1, 0, 43, 60, -1, 5, 10, 4, 4}, {1, 1, 0, 1, 39, 0, -1, 99, 99, 1, 1}};
        for (int person = 0; person < 4; person++) {
            for (int what = 0; what < 11; what++) {
                Check.due("person(" + person + ", " + what + ")", x.person(person, what), due[person][what]);
            }
        }
        int[][] none = {{4, 0}, {-1, 0}, {0, 11}, {0, -1}, {3, 11}, {LEAST, 0}, {MOST, 10}, {0, LEAST}, {0, MOST}, {7, 0}, {8, 0}};
        for (int[] n : none) {
            Look.silent("person(" + n[0] + ", " + n[1] + ")", x, -1, y -> y.person(n[0], n[1]));
        }
        OwnChair most = Check.made(eight());
        Check.due("the eighth one's ROOM", most.person(7, 0), 7);
        Check.due("how strong", most.person(7, 7), 99);
        for (int person : BESIDE_EIGHT) {
            Check.due("person(" + person + ", 0)", most.person(person, 0), -1);
        }
    }

    private static void widthForDoors() {
        Check.sentence("The chair of one joined counts for doors as wide as both chairs together, for the floor as wide as it is; "
            + "it weighs what it does.");
        String two = "room a door 9 floor 99;room b door 4 floor 2;room c door 5 floor 2;room d door 9 floor 1;"
            + "person p strong 1 chair 7 wide 2 at a;person q strong 1 chair 9 wide 3 at a;";
        OwnChair alone = Check.made(two);
        Check.due("alone", alone.person(0, 10) * 10 + alone.person(1, 10), 23);
        OwnChair x = Check.made(two + "joined p q;");
        Check.due("joined", x.person(0, 10) * 10 + x.person(1, 10), 55);
        Check.due("each is as wide as it is", x.person(0, 9) * 10 + x.person(1, 9), 23);
        Check.due("and weighs what it does", x.person(0, 8) * 10 + x.person(1, 8), 79);
        Check.due("together on the floor", x.room(0, 2), 5);
        Check.due("a door of 4 is too small for 5", x.fits(0, 1), 0);
        Check.due("a door of 4 for 2 alone", alone.fits(0, 1), 1);
        Check.due("a door of 5, a floor of 2", x.fits(0, 2), 1);
        Check.due("a floor of 2 for a chair of 3", x.fits(1, 2), 0);
        Check.due("a floor of 1", x.fits(0, 3), 0);
        OwnChair widest = Check.made("room a door 9 floor 99;room b door 9 floor 99;person p strong 1 chair 1 wide 9 at a;"
            + "person q strong 1 chair 1 wide 9 at a;joined p q;");
        Check.due("the widest", widest.person(0, 10), 18);
        Check.due("through the widest door", widest.fits(0, 1), 0);
    }

    private static void fitsByDoor() {
        Check.sentence("It FITS a ROOM, if it is no wider for doors than the door");
        for (int door = 1; door <= 9; door++) {
            for (int wide = 1; wide <= 9; wide++) {
                OwnChair x = Check.made("room a door 9 floor 99;room b door " + door + " floor 99;person p strong 1 chair 1 wide "
                    + wide + " at a;");
                Check.due(wide + " through " + door, x.fits(0, 1), wide <= door ? 1 : 0);
            }
        }
    }

    private static void fitsByFloor() {
        Check.sentence("all chairs there and it are together no wider than the floor");
        for (int floor = 4; floor <= 12; floor++) {
            OwnChair x = Check.made("room a door 9 floor 99;room b door 9 floor " + floor + ";person p strong 1 chair 1 wide 5 at a;"
                + "person q strong 1 chair 1 wide 1 at b;person r strong 1 chair 1 wide 3 at b;");
            Check.due("1, 3 and 5 on " + floor, x.fits(0, 1), floor >= 9 ? 1 : 0);
        }
        // a broken chair that is there counts, too
        OwnChair x = Check.made("room a door 9 floor 99;room b door 9 floor 5;way a b takes 1;person p strong 1 chair 1 wide 3 at a;"
            + "person q strong 1 chair 1 wide 3 at a;breaks 100;");
        Check.due("ahead of it", x.fits(1, 1), 1);
        x.go(0, 1, 0);
        Check.due("broken there", x.person(0, 2), 1);
        Check.due("behind it", x.fits(1, 1), 0);
        Check.due("whether it is broken itself is no matter", x.fits(0, 0), 1);
    }

    private static void fitsNone() {
        Check.sentence("Whether a chair FITS a ROOM in which it is not: 1, 0; NONE when it is there, or there are none such.");
        OwnChair x = BoundsTown.busy();
        int[][] due = {{-1, 0, 0, 1}, {-1, 0, 0, 1}, {-1, 1, 0, 1}, {1, -1, 1, 1}};
        for (int chair = 0; chair < 4; chair++) {
            for (int room = 0; room < 4; room++) {
                Check.due("fits(" + chair + ", " + room + ")", x.fits(chair, room), due[chair][room]);
            }
        }
        int[][] none = {{0, 0}, {3, 1}, {4, 0}, {-1, 0}, {0, 4}, {0, -1}, {LEAST, 0}, {0, MOST}, {8, 8}};
        for (int[] n : none) {
            Look.silent("fits(" + n[0] + ", " + n[1] + ")", x, -1, y -> y.fits(n[0], n[1]));
        }
    }

    private static void sits() {
        Check.sentence("One SITS, if his own chair, whole, is in his ROOM; joined ones sit only if both chairs are in that ROOM.");
        String text = "room a door 9 floor 99;room b door 9 floor 99;person p strong 1 chair 1 wide 1 at a;"
            + "person q strong 1 chair 1 wide 1 at a;";
        for (int state = 0; state < 64; state++) {
            int[] bits = {state & 1, state >> 1 & 1, state >> 2 & 1, state >> 3 & 1, state >> 4 & 1, state >> 5 & 1};
            int[] image = new int[19];
            System.arraycopy(bits, 0, image, 0, 3);
            System.arraycopy(bits, 3, image, 9, 3);
            Check.sealed(image);
            OwnChair alone = Check.made(text);
            Check.due("on", Check.on(alone, image), true);
            boolean p = bits[0] == bits[1] && bits[2] == 0;
            boolean q = bits[3] == bits[4] && bits[5] == 0;
            Check.due("p alone in " + state, alone.person(0, 3), p ? 1 : 0);
            Check.due("q alone in " + state, alone.person(1, 3), q ? 1 : 0);
            OwnChair joined = Check.made(text + "joined p q;");
            Check.due("on", Check.on(joined, image), true);
            boolean together = bits[1] == bits[4];
            Check.due("p joined in " + state, joined.person(0, 3), p && together ? 1 : 0);
            Check.due("q joined in " + state, joined.person(1, 3), q && together ? 1 : 0);
            Check.due("has(4) in " + state, joined.has(4), joined.person(0, 3) + joined.person(1, 3));
            Check.due("room(0, 5) in " + state, joined.room(0, 5) | joined.room(1, 5),
                joined.person(0, 3) + 2 * joined.person(1, 3));
        }
    }

    private static void takes() {
        Check.sentence("How many minutes one GOES to a ROOM by the way from his (chair NONE: without one)");
        OwnChair x = BoundsTown.busy();
        Check.due("ann without one", x.takes(0, 1, -1), 5);
        Check.due("ann by the longer way", x.takes(0, 2, -1), 20);
        Check.due("di with her own", x.takes(3, 0, 3), 5 + 1 + 1);
        Check.due("cy with hers", x.takes(2, 0, 3), 5 + 19);
        Check.due("cy with hers into the attic", x.takes(2, 2, 3), 7 + 19);
        Check.due("it is no act", x.has(9), 6);
    }

    private static void takesNone() {
        Check.sentence("NONE when there is none, there are none such, or the chair can't be taken.");
        OwnChair x = BoundsTown.busy();
        int[][] none = {
            // no way: the same ROOM, one without ways
            {0, 0, -1}, {0, 3, -1}, {3, 3, 3}, {3, 1, 3},
            // none such
            {4, 0, -1}, {-1, 0, -1}, {0, 4, -1}, {0, -1, -1}, {0, 1, 4}, {0, 1, -2}, {LEAST, 0, -1}, {0, MOST, -1}, {0, 1, LEAST},
            {0, 1, MOST}, {8, 1, -1}, {0, 8, -1}, {0, 1, 8},
            // a chair that is elsewhere, is broken, is too wide for the door
            {0, 1, 3}, {1, 0, 1}, {0, 1, 2}, {0, 2, 2}, {0, 1, 0}, {0, 1, 1}, {0, 2, 0}};
        for (int[] n : none) {
            Look.silent("takes(" + n[0] + ", " + n[1] + ", " + n[2] + ")", x, -1, y -> y.takes(n[0], n[1], n[2]));
        }
        OwnChair y = Check.made("room a door 9 floor 9;room b door 9 floor 4;room c door 3 floor 9;way a b takes 1;way a c takes 1;"
            + "person p strong 1 chair 1 wide 3 at a;person q strong 1 chair 1 wide 1 at b;person r strong 1 chair 1 wide 4 at a;");
        Check.due("the floor has just room", y.takes(0, 1, 0), 1);
        Check.due("the floor has no room", y.takes(0, 1, 2), -1);
        Check.due("the door is just wide enough", y.takes(0, 2, 0), 1);
        Check.due("the door is too small", y.takes(0, 2, 2), -1);
    }
}
