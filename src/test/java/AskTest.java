/** Promises 6 to 12: has, letter, room, way, person, fits, takes. */
public final class AskTest {
    private static final int LEAST = Integer.MIN_VALUE;
    private static final int MOST = Integer.MAX_VALUE;
    // rooms 0 hall, 1 shop, 2 attic (no way to it); people 0 ann, 1 bob (joined), 2 cy, 3 di
    private static final String TOWN = "room hall door 5 floor 10;room shop door 4 floor 6;room attic door 9 floor 9;"
        + "way hall shop takes 12;way shop hall takes 5;"
        + "person ann strong 10 chair 20 wide 2 at hall;person bob strong 30 chair 6 wide 3 at shop;"
        + "person cy strong 5 chair 10 wide 4 at hall;person di strong 99 chair 99 wide 1 at hall;"
        + "joined bob ann;slow weight/strong;carpenter shop;breaks 3;";

    public static void main(String[] args) {
        has();
        letters();
        rooms();
        ways();
        persons();
        fits();
        takes();
        Check.finish();
    }

    private static void has() {
        OwnChair x = Check.made(TOWN);
        int[] due = {3, 4, 3, 1, 2, 0, 0, 0, 0, 0, 1};
        for (int what = 0; what < due.length; what++) {
            Check.due("has(" + what + ")", x.has(what), due[what]);
        }
        Check.due("has(11)", x.has(11), -1);
        Check.due("has(-1)", x.has(-1), -1);
        Check.due("has(least)", x.has(LEAST), -1);
        Check.due("has(most)", x.has(MOST), -1);
        // ann and cy go to the shop, ann waits there and stands, di waits and sits
        x.seed(5);
        x.go(0, 1, -1);
        x.go(2, 1, -1);
        x.stay(0, 100);
        x.stay(2, 30);
        x.stay(3, 50);
        Check.due("who sits: di alone", x.has(4), 1);
        Check.due("the latest clock is ann's", x.has(6), 105);
        Check.due("aches of ann and cy", x.has(7), 130);
        Check.due("nothing was carried", x.has(8), 0);
        Check.due("acts", x.has(9), 5);
        Check.due("the seed", x.has(10), 5);
        x.undo();
        Check.due("acts but one", x.has(9), 4);
    }

    private static void letters() {
        OwnChair x = Check.made(TOWN);
        int[] hall = {8, 1, 12, 12, 0, 0};
        int[] ann = {1, 14, 14, 0, 0, 0};
        for (int k = 0; k < 6; k++) {
            Check.due("letter(0, 0, " + k + ")", x.letter(0, 0, k), hall[k]);
            Check.due("letter(1, 0, " + k + ")", x.letter(1, 0, k), ann[k]);
        }
        int[][] wrong = {{0, 0, 6}, {0, 0, -1}, {1, 0, 6}, {1, 0, -1}, {2, 0, 0}, {-1, 0, 0}, {0, 3, 0}, {0, -1, 0},
            {1, 4, 0}, {1, -1, 0}, {LEAST, 0, 0}, {0, MOST, 0}, {0, 0, LEAST}, {1, LEAST, MOST}};
        for (int[] w : wrong) {
            Check.due("letter(" + w[0] + ", " + w[1] + ", " + w[2] + ")", x.letter(w[0], w[1], w[2]), -1);
        }
        OwnChair y = Check.made("room zyxwvu door 1 floor 1;room aaaaaa door 1 floor 1;");
        for (int k = 0; k < 6; k++) {
            Check.due("letter " + k + " of zyxwvu", y.letter(0, 0, k), 26 - k);
            Check.due("letter " + k + " of aaaaaa", y.letter(0, 1, k), 1);
        }
    }

    private static void rooms() {
        OwnChair x = Check.made(TOWN);
        int[][] due = {{5, 10, 7, 13, 13, 12}, {4, 6, 3, 2, 2, 0}, {9, 9, 0, 0, 0, 0}};
        for (int r = 0; r < 3; r++) {
            for (int what = 0; what < 6; what++) {
                Check.due("room(" + r + ", " + what + ")", x.room(r, what), due[r][what]);
            }
            Check.due("room(" + r + ", 6)", x.room(r, 6), -1);
            Check.due("room(" + r + ", -1)", x.room(r, -1), -1);
            Check.due("room(" + r + ", least)", x.room(r, LEAST), -1);
        }
        Check.due("room(3, 0)", x.room(3, 0), -1);
        Check.due("room(-1, 0)", x.room(-1, 0), -1);
        Check.due("room(most, 0)", x.room(MOST, 0), -1);
        // cy leaves his chair; di takes hers
        x.go(2, 1, -1);
        x.go(3, 1, 3);
        Check.due("people in the shop", x.room(1, 3), 14);
        Check.due("chairs in the shop", x.room(1, 4), 10);
        Check.due("their width", x.room(1, 2), 4);
        Check.due("who sits there", x.room(1, 5), x.has(5) == 1 ? 0 : 8);
        Check.due("chairs in the hall", x.room(0, 4), 5);
        Check.due("who sits in the hall", x.room(0, 5), 0);
    }

    private static void ways() {
        OwnChair x = Check.made(TOWN);
        Check.due("way(0, 1), the last one counts", x.way(0, 1), 5);
        Check.due("way(1, 0)", x.way(1, 0), 5);
        int[][] wrong = {{0, 0}, {0, 2}, {2, 1}, {0, 3}, {3, 0}, {-1, 0}, {0, -1}, {MOST, 0}, {0, LEAST}, {LEAST, MOST}};
        for (int[] w : wrong) {
            Check.due("way(" + w[0] + ", " + w[1] + ")", x.way(w[0], w[1]), -1);
        }
    }

    private static void persons() {
        OwnChair x = Check.made(TOWN);
        int[][] due = {{0, 0, 0, 0, 0, 0, 1, 10, 20, 2, 5}, {1, 1, 0, 0, 0, 0, 0, 30, 6, 3, 5},
            {0, 0, 0, 1, 0, 0, -1, 5, 10, 4, 4}, {0, 0, 0, 1, 0, 0, -1, 99, 99, 1, 1}};
        for (int p = 0; p < 4; p++) {
            for (int what = 0; what < 11; what++) {
                Check.due("person(" + p + ", " + what + ")", x.person(p, what), due[p][what]);
            }
            Check.due("person(" + p + ", 11)", x.person(p, 11), -1);
            Check.due("person(" + p + ", -1)", x.person(p, -1), -1);
        }
        Check.due("person(4, 0)", x.person(4, 0), -1);
        Check.due("person(-1, 0)", x.person(-1, 0), -1);
        Check.due("person(least, 0)", x.person(LEAST, 0), -1);
        Check.due("person(0, most)", x.person(0, MOST), -1);
        sitting();
    }

    /** Joined ones sit only where both chairs are, each for himself; the other need not be there. */
    private static void sitting() {
        OwnChair x = Check.made("room a door 9 floor 9;room b door 9 floor 9;way a b takes 1;"
            + "person p strong 1 chair 1 wide 1 at a;person q strong 1 chair 1 wide 1 at a;joined p q;");
        Check.due("both sit", x.has(4), 2);
        x.go(1, 1, -1);
        Check.due("p sits alone, both chairs are there", x.person(0, 3), 1);
        Check.due("q stands", x.person(1, 3), 0);
        x.go(1, 0, -1);
        x.go(1, 1, 1);
        Check.due("q has gone with his chair: p stands", x.person(0, 3), 0);
        Check.due("and so does q", x.person(1, 3), 0);
        x.go(0, 1, 0);
        Check.due("both sit in b", x.room(1, 5), 3);
    }

    private static void fits() {
        OwnChair x = Check.made(TOWN);
        int[][] due = {{-1, 0, 1}, {1, -1, 1}, {-1, 0, 1}, {-1, 1, 1}};
        for (int c = 0; c < 4; c++) {
            for (int r = 0; r < 3; r++) {
                Check.due("fits(" + c + ", " + r + ")", x.fits(c, r), due[c][r]);
            }
        }
        int[][] wrong = {{4, 0}, {-1, 0}, {0, 3}, {0, -1}, {LEAST, 0}, {0, MOST}};
        for (int[] w : wrong) {
            Check.due("fits(" + w[0] + ", " + w[1] + ")", x.fits(w[0], w[1]), -1);
        }
        // door just wide enough and floor just wide enough, and one less
        OwnChair y = Check.made("room a door 9 floor 99;room b door 3 floor 5;room c door 2 floor 9;room d door 9 floor 4;"
            + "person p strong 1 chair 1 wide 3 at a;person q strong 1 chair 1 wide 2 at b;"
            + "person r strong 1 chair 1 wide 2 at d;");
        Check.due("door and floor just so", y.fits(0, 1), 1);
        Check.due("door one too small", y.fits(0, 2), 0);
        Check.due("floor one too small", y.fits(0, 3), 0);
    }

    private static void takes() {
        OwnChair x = Check.made(TOWN);
        Check.due("takes(0, 1, -1)", x.takes(0, 1, -1), 5);
        Check.due("takes(3, 1, 3)", x.takes(3, 1, 3), 6);
        Check.due("cy with di's chair", x.takes(2, 1, 3), 5 + 19);
        Check.due("bob with his own", x.takes(1, 0, 1), 5);
        int[][] wrong = {{0, 1, 0}, {2, 1, 2}, {0, 1, 1}, {0, 0, -1}, {0, 2, -1}, {0, 3, -1}, {0, -1, -1}, {4, 1, -1},
            {-1, 1, -1}, {0, 1, 4}, {0, 1, -2}, {0, 1, LEAST}, {MOST, 0, 0}, {0, LEAST, -1}, {2, 2, 2}};
        for (int[] w : wrong) {
            Check.due("takes(" + w[0] + ", " + w[1] + ", " + w[2] + ")", x.takes(w[0], w[1], w[2]), -1);
        }
        Check.due("none of these is an act", x.has(9), 0);
        for (int what = 0; what < 6; what++) {
            Check.due("none of these is refused: status(" + what + ")", x.status(what), 0);
        }
    }
}
