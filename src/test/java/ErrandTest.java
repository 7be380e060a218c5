/** Promises 22 and 23: errand and along. */
public final class ErrandTest {
    // a - b - c in a row, and a - c; carrying costs 5 more on each way
    private static final String TOWN = "room a door 9 floor 9;room b door 9 floor 9;room c door 9 floor 9;"
        + "room d door 1 floor 9;room e door 9 floor 9;way a b takes 2;way b c takes 3;way a c takes 4;way a d takes 1;"
        + "person p strong 10 chair 20 wide 2 at a;person q strong 40 chair 8 wide 1 at b;slow 5;";

    public static void main(String[] args) {
        ordinary();
        likeOnes();
        comingBack();
        joinedOnes();
        brokenOnes();
        narrowOnes();
        longest();
        refusals();
        stays();
        Check.finish();
    }

    private static void due(OwnChair x, int person, int[] rows, int minutes, int... along) {
        Check.due("errand", Check.errand(x, person, rows), minutes);
        for (int k = 0; k < 13; k++) {
            Check.due("along(" + k + ")", x.along(k), k < along.length ? along[k] : -1);
        }
        Check.due("along(-1)", x.along(-1), -1);
        Check.due("along(least)", x.along(Integer.MIN_VALUE), -1);
        Check.due("the tape is gone", x.end(1), false);
    }

    private static int[] rows(int... rows) {
        return rows;
    }

    private static void ordinary() {
        OwnChair x = Check.made(TOWN);
        due(x, 0, rows(1, 0), 2, 0);
        due(x, 0, rows(1, 1), 7, 1);
        due(x, 0, rows(1, 0, 2, 1), 15, 1, 1);
        due(x, 0, rows(1, 1, 2, 0), 10, 1, 0);
        due(x, 0, rows(1, 0, 0, 1), 4, 0, 0);
        due(x, 0, rows(1, 0, 0, 0, 2, 1), 13, 0, 0, 1);
        due(x, 0, rows(3, 0, 0, 0), 2, 0, 0);
        due(x, 0, rows(3, 1), -1);
        due(x, 0, rows(3, 0, 0, 1, 1, 1), 9, 0, 0, 1);
        Check.due("nothing has moved", x.person(0, 0) + x.person(0, 1) + x.person(0, 4), 0);
        Check.due("no act", x.has(9), 0);
        Check.due("nothing refused", x.status(5), 0);
    }

    /** Of like ones the first, way by way without it ahead of with it. */
    private static void likeOnes() {
        String free = TOWN.replace("slow 5;", "slow 0;");
        OwnChair x = Check.made(free);
        due(x, 0, rows(1, 0), 2, 0);
        due(x, 0, rows(1, 0, 0, 0, 1, 1), 6, 0, 0, 1);
        due(x, 0, rows(1, 0, 0, 0, 1, 0, 0, 1), 8, 0, 0, 0, 0);
        due(x, 0, rows(1, 1, 0, 0, 2, 1), 8, 1, 1, 1);
        due(x, 0, rows(1, 0, 0, 0, 2, 1), 8, 0, 0, 1);
    }

    /** He passes where he left it, and takes it up again. */
    private static void comingBack() {
        OwnChair x = Check.made(TOWN);
        // sit in b, then a without need, then b again, then sit in c
        due(x, 0, rows(1, 1, 0, 0, 1, 0, 2, 1), 2 + 5 + 2 + 2 + 3 + 5, 1, 0, 0, 1);
        // he is away from it at first
        x.go(0, 1, -1);
        due(x, 0, rows(2, 0), 3, 0);
        due(x, 0, rows(2, 1), -1);
        due(x, 0, rows(0, 1), 2, 0);
        due(x, 0, rows(0, 0, 2, 1), 2 + 4 + 5, 0, 1);
        OwnChair y = Check.made(TOWN);
        // his chair was carried ahead by another: he sits where it is
        y.go(1, 0, -1);
        y.go(1, 2, 0);
        due(y, 0, rows(1, 0, 2, 1), 5, 0, 0);
        due(y, 0, rows(1, 1), -1);
        due(y, 0, rows(2, 1, 1, 1), 4 + 3 + 5, 0, 1);
    }

    private static void joinedOnes() {
        OwnChair x = Check.made(TOWN + "joined p q;");
        // q's chair is in b and stays there
        due(x, 0, rows(1, 1), 7, 1);
        due(x, 0, rows(2, 1), -1);
        due(x, 0, rows(1, 1, 2, 0, 1, 1), 7 + 3 + 3, 1, 0, 0);
        due(x, 0, rows(1, 0, 0, 1), -1);
    }

    private static void brokenOnes() {
        OwnChair x = Check.made(TOWN + "breaks 100;");
        x.go(0, 1, 0);
        due(x, 0, rows(2, 0), 3, 0);
        due(x, 0, rows(2, 1), -1);
        due(x, 0, rows(2, 0, 1, 1), -1);
        due(x, 0, rows(0, 0, 1, 0), 4, 0, 0);
        // nothing breaks on an errand, and no draw is made
        OwnChair y = Check.made(TOWN + "breaks 100;");
        due(y, 0, rows(1, 1, 2, 1), 15, 1, 1);
        Check.due("the seed stays", y.has(10), 1);
    }

    private static void narrowOnes() {
        OwnChair x = Check.made("room a door 9 floor 3;room b door 9 floor 2;room c door 9 floor 3;way a b takes 1;"
            + "way b c takes 1;way a c takes 30;person p strong 1 chair 1 wide 2 at a;"
            + "person q strong 1 chair 1 wide 1 at b;slow clock;");
        due(x, 0, rows(1, 0, 2, 1), -1);
        due(x, 0, rows(1, 0, 0, 0, 2, 1), 32, 0, 0, 1);
        due(x, 0, rows(2, 1, 0, 1), 60, 1, 1);
        // the clock as it is now on each way
        x.stay(0, 10);
        due(x, 0, rows(2, 1, 0, 1), 80, 1, 1);
        // its own chair does not stand in its way
        OwnChair y = Check.made("room a door 9 floor 2;room b door 9 floor 2;way a b takes 1;"
            + "person p strong 1 chair 1 wide 2 at a;");
        due(y, 0, rows(1, 1, 0, 1, 1, 1, 0, 1), 4, 1, 1, 1, 1);
    }

    private static void longest() {
        OwnChair x = Check.made(TOWN);
        due(x, 0, rows(1, 1, 0, 1, 1, 1, 0, 1, 1, 1, 0, 1, 1, 1, 0, 1, 1, 1, 0, 1, 1, 1, 0, 1), 84,
            1, 1, 1, 1, 1, 1, 1, 1, 1, 1, 1, 1);
        due(x, 0, rows(1, 0, 0, 0, 1, 0, 0, 0, 1, 0, 0, 0, 1, 0, 0, 0, 1, 0, 0, 0, 1, 0, 0, 0), 24,
            0, 0, 0, 0, 0, 0, 0, 0, 0, 0, 0, 0);
        Check.due("13 rows", Check.errand(x, 0, 1, 0, 0, 0, 1, 0, 0, 0, 1, 0, 0, 0, 1, 0, 0, 0, 1, 0, 0, 0, 1, 0, 0, 0, 1, 0),
            -1);
        Check.due("status(5)", x.status(5), 1);
        Check.due("along of the one ahead", x.along(11), 0);
    }

    private static void refusals() {
        OwnChair x = Check.made(TOWN);
        int[][] wrong = {{}, {1}, {1, 0, 0}, {1, 2}, {1, 255}, {0, 0}, {4, 0}, {5, 0}, {255, 0}, {1, 0, 1, 0}, {1, 0, 3, 0},
            {2, 0, 3, 0}, {1, 0, 5, 0}};
        for (int i = 0; i < wrong.length; i++) {
            Check.due("errand " + i, Check.errand(x, 0, wrong[i]), -1);
            Check.due("status(5)", x.status(5), i + 1);
            Check.due("the tape is gone", x.end(1), false);
        }
        int[] nobody = {2, -1, Integer.MIN_VALUE, Integer.MAX_VALUE};
        for (int person : nobody) {
            Check.due("errand of " + person, Check.errand(x, person, 1, 0), -1);
        }
        Check.due("status(5) then", x.status(5), wrong.length + nobody.length);
        Check.due("none told", x.along(0), -1);
    }

    private static void stays() {
        OwnChair x = Check.made(TOWN);
        due(x, 0, rows(1, 1), 7, 1);
        Check.errand(x, 0, 0, 0);
        Check.due("a refused one leaves it", x.along(0), 1);
        x.go(0, 1, -1);
        Check.due("an act leaves it", x.along(0), 1);
        x.undo();
        Check.due("an undo leaves it", x.along(0), 1);
        Check.due("an image leaves it", Check.on(x, Check.image(x)), true);
        Check.due("along(0)", x.along(0), 1);
        due(x, 0, rows(3, 1), -1);
        Check.due("one that can't be takes it away", x.along(0), -1);
        Check.due("and is not refused", x.status(5), 1);
        due(x, 0, rows(1, 1), 7, 1);
        Check.town(x, "!");
        Check.due("a fault leaves it", x.along(0), 1);
        Check.town(x, TOWN);
        Check.due("another town takes it away", x.along(0), -1);
    }
}
