/** Promises 20 and 21: route and bearer. */
public final class RouteTest {
    private static final int LEAST = Integer.MIN_VALUE;
    private static final int MOST = Integer.MAX_VALUE;
    // a square a b d c with like ways, and e behind d; f has no way
    private static final String SQUARE = "room a door 9 floor 9;room b door 9 floor 9;room c door 9 floor 9;"
        + "room d door 9 floor 9;room e door 2 floor 9;room f door 9 floor 9;"
        + "way a c takes 3;way c d takes 4;way a b takes 4;way b d takes 3;way d e takes 5;";
    private static final String P = "person p strong 10 chair 20 wide 2 at a;";
    private static final String Q = "person q strong 40 chair 8 wide 3 at d;";

    public static void main(String[] args) {
        routes();
        roomsThatFit();
        brokenOnes();
        clocks();
        wrongRoutes();
        bearers();
        bearersOfLikeMinutes();
        allWays();
        Check.finish();
    }

    private static void path(OwnChair x, int person, int chair, int room, int minutes, int... rooms) {
        String told = "route(" + person + ", " + chair + ", " + room + ", ";
        Check.due(told + "-1)", x.route(person, chair, room, -1), minutes);
        for (int k = 0; k < 9; k++) {
            Check.due(told + k + ")", x.route(person, chair, room, k), k < rooms.length ? rooms[k] : -1);
        }
    }

    private static void bears(OwnChair x, int chair, int room, int minutes, int... who) {
        String told = "bearer(" + chair + ", " + room + ", ";
        Check.due(told + "-1)", x.bearer(chair, room, -1), minutes);
        for (int k = 0; k < 9; k++) {
            Check.due(told + k + ")", x.bearer(chair, room, k), k < who.length ? who[k] : -1);
        }
    }

    private static void routes() {
        OwnChair x = Check.made(SQUARE + P + Q);
        path(x, 0, 0, 0, 0);
        path(x, 0, 0, 1, 4, 1);
        path(x, 0, 0, 3, 7, 1, 3);
        path(x, 0, 0, 4, 12, 1, 3, 4);
        path(x, 0, 0, 5, -1);
        path(x, 1, 0, 3, 7, 1, 3);
        path(x, 0, 1, 0, 7, 1, 0);
        path(x, 0, 1, 4, -1);
        OwnChair y = Check.made(SQUARE + P + Q + "slow weight/strong;");
        path(y, 0, 0, 3, 11, 1, 3);
        path(y, 1, 0, 3, 7, 1, 3);
        // a longer way by rooms is shorter by minutes, and the slow sum counts on each way
        OwnChair z = Check.made("room a door 9 floor 9;room b door 9 floor 9;room c door 9 floor 9;"
            + "way a b takes 10;way a c takes 4;way c b takes 5;" + P);
        path(z, 0, 0, 1, 9, 2, 1);
        OwnChair w = Check.made("room a door 9 floor 9;room b door 9 floor 9;room c door 9 floor 9;"
            + "way a b takes 10;way a c takes 4;way c b takes 5;slow 2;" + P);
        path(w, 0, 0, 1, 12, 1);
        OwnChair v = Check.made("room a door 9 floor 9;room b door 9 floor 9;room c door 9 floor 9;"
            + "way a b takes 10;way a c takes 4;way c b takes 5;slow 1;" + P);
        // 11 either way: b itself comes ahead of c
        path(v, 0, 0, 1, 11, 1);
        // he need not be where the chair is, nor does it matter where he is
        z.go(0, 1, -1);
        path(z, 0, 0, 1, 9, 2, 1);
    }

    private static void roomsThatFit() {
        // b is full but for its own chair, which does not stand in its own way
        String town = "room a door 9 floor 3;room b door 9 floor 3;room c door 9 floor 9;"
            + "way a b takes 1;way b c takes 1;way a c takes 9;"
            + "person p strong 1 chair 1 wide 2 at a;person q strong 1 chair 1 wide 2 at b;";
        OwnChair x = Check.made(town);
        path(x, 0, 0, 1, -1);
        path(x, 0, 0, 2, 9, 2);
        path(x, 0, 1, 2, 1, 2);
        path(x, 0, 1, 0, -1);
        path(x, 0, 0, 0, 0);
        // joined: for doors both together, for the floor each his own
        OwnChair y = Check.made("room a door 9 floor 9;room b door 3 floor 2;room c door 4 floor 2;way a b takes 1;"
            + "way a c takes 1;person p strong 1 chair 1 wide 2 at a;person q strong 1 chair 1 wide 2 at a;joined p q;");
        path(y, 0, 0, 1, -1);
        path(y, 0, 0, 2, 1, 2);
        bears(y, 0, 1, -1);
        bears(y, 0, 2, 1, 0);
    }

    private static void brokenOnes() {
        OwnChair x = Check.made(SQUARE + P + Q + "breaks 100;");
        x.go(0, 1, 0);
        path(x, 0, 0, 1, -1);
        path(x, 0, 0, 3, -1);
        bears(x, 0, 1, -1);
        bears(x, 0, 3, -1);
        path(x, 0, 1, 1, 3, 1);
    }

    private static void clocks() {
        OwnChair x = Check.made(SQUARE + P + Q + "slow clock;");
        x.stay(0, 10);
        x.stay(1, 1);
        path(x, 0, 0, 3, 27, 1, 3);
        path(x, 1, 0, 3, 9, 1, 3);
        bears(x, 0, 3, 9, 1, 1);
    }

    private static void wrongRoutes() {
        OwnChair x = Check.made(SQUARE + P + Q);
        int[][] wrong = {{2, 0, 1, -1}, {-1, 0, 1, -1}, {0, 2, 1, -1}, {0, -1, 1, -1}, {0, 0, 6, -1}, {0, 0, -1, -1},
            {0, 0, 1, -2}, {0, 0, 1, LEAST}, {0, 0, 1, MOST}, {MOST, 0, 1, -1}, {0, LEAST, 1, -1}, {0, 0, MOST, -1},
            {0, 0, 0, 0}, {0, 0, 5, 0}};
        for (int[] w : wrong) {
            Check.due("route(" + w[0] + ", " + w[1] + ", " + w[2] + ", " + w[3] + ")", x.route(w[0], w[1], w[2], w[3]), -1);
            Check.due("bearer(" + w[1] + ", " + w[2] + ", " + w[3] + ")",
                x.bearer(w[1], w[2], w[3]), w[0] == 0 ? -1 : 4);
        }
        for (int what = 0; what < 6; what++) {
            Check.due("status(" + what + ")", x.status(what), 0);
        }
        Check.due("acts", x.has(9), 0);
    }

    private static void bearers() {
        OwnChair x = Check.made(SQUARE + P + Q + "slow weight/strong+takes*own;");
        // p takes 2 and the way again, q nothing for p's chair
        bears(x, 0, 3, 7, 1, 1);
        bears(x, 0, 0, 0);
        // q's chair: p takes 0 more, q the way once more
        bears(x, 1, 0, 7, 0, 0);
        bears(x, 1, 5, -1);
        // who is best changes with the way: p is slow on long ways
        OwnChair y = Check.made("room a door 9 floor 9;room b door 9 floor 9;room c door 9 floor 9;"
            + "way a b takes 20;way b c takes 3;person p strong 10 chair 20 wide 2 at a;"
            + "person q strong 40 chair 8 wide 3 at a;slow if(strong=10,takes,10);");
        bears(y, 0, 1, 30, 1);
        bears(y, 0, 2, 36, 1, 0);
    }

    private static void bearersOfLikeMinutes() {
        OwnChair x = Check.made(SQUARE + P + Q);
        bears(x, 0, 4, 12, 0, 0, 0);
        // 7 by b and 7 by c: b is the first by rooms, whoever goes
        OwnChair y = Check.made(SQUARE + P + Q + "slow if(takes=3 and strong=40 or takes=4 and strong=10,0,50);");
        bears(y, 0, 3, 7, 0, 1);
    }

    /** Eight rooms in a row and eight people: the longest route there can be. */
    private static void allWays() {
        StringBuilder text = new StringBuilder();
        for (int i = 0; i < 8; i++) {
            text.append("room r").append((char) ('a' + i)).append(" door 9 floor 99;");
        }
        for (int i = 0; i < 7; i++) {
            text.append("way r").append((char) ('a' + i)).append(" r").append((char) ('b' + i)).append(" takes 60;");
        }
        for (int i = 0; i < 8; i++) {
            text.append("person p").append((char) ('a' + i)).append(" strong ").append(i + 1)
                .append(" chair 99 wide 9 at ra;");
        }
        OwnChair x = Check.made(text + "slow 9999;");
        path(x, 7, 0, 7, 7 * 1059, 1, 2, 3, 4, 5, 6, 7);
        bears(x, 0, 7, 7 * 1059, 0, 0, 0, 0, 0, 0, 0);
        OwnChair y = Check.made(text + "slow 8-strong;");
        bears(y, 0, 7, 420, 7, 7, 7, 7, 7, 7, 7);
    }
}
