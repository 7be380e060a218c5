/** Terms III and promises 20 to 26: the boundaries of route, bearer, errand, along, seated, standing and where. */
public final class BoundsPlanTest {
    private static final int LEAST = Integer.MIN_VALUE;
    private static final int MOST = Integer.MAX_VALUE;
    // a row a b c d, and e without ways; carrying costs 5 more
    private static final String ROW = "room a door 9 floor 9;room b door 9 floor 9;room c door 9 floor 9;room d door 9 floor 9;"
        + "room e door 9 floor 9;way a b takes 2;way b c takes 3;way c d takes 4;";
    private static final String P = "person p strong 10 chair 20 wide 2 at a;";
    private static final String Q = "person q strong 40 chair 8 wide 3 at b;";

    public static void main(String[] args) {
        routes();
        routesOfLikeMinutes();
        routesThatFit();
        noRoutes();
        longestRoute();
        bearers();
        bearersOfLikeMinutes();
        noBearers();
        errands();
        errandsOfLikeMinutes();
        errandsThatCanNotBe();
        twelveRows();
        refusedErrands();
        alongs();
        latestErrand();
        seatedByDoorAndFloor();
        seatedOfLikeMany();
        seatedJoined();
        seatedNone();
        standing();
        eightRows();
        standingCounts();
        refusedStandings();
        wheres();
        latestStanding();
        Check.finish();
    }

    private static void routes() {
        Check.sentence("A ROUTE of a chair by a PERSON to a ROOM: minutes (k NONE; 0 where it is), the k-th ROOM come to.");
        OwnChair x = Check.made(ROW + P + Q + "slow 5;");
        Check.due("0 where it is", x.route(0, 0, 0, -1), 0);
        Check.due("no ROOM is come to", x.route(0, 0, 0, 0), -1);
        Check.due("one way", x.route(0, 0, 1, -1), 7);
        Check.due("its ROOM", x.route(0, 0, 1, 0), 1);
        Check.due("none behind it", x.route(0, 0, 1, 1), -1);
        Check.due("three ways", x.route(0, 0, 3, -1), 24);
        for (int k = 0; k < 3; k++) {
            Check.due("ROOM " + k, x.route(0, 0, 3, k), k + 1);
        }
        Check.due("none behind the last", x.route(0, 0, 3, 3), -1);
        Check.due("by another one, who is elsewhere", x.route(1, 0, 3, -1), 24);
        Check.due("of another one's chair", x.route(0, 1, 0, -1), 7);
        Check.sentence("each taking what one who GOES with it takes, his CLOCK as it is now");
        OwnChair y = Check.made(ROW + P + Q + "slow clock;");
        y.stay(0, 10);
        Check.due("the CLOCK of who carries it, on each way", y.route(0, 0, 3, -1), 9 + 30);
        Check.due("of the other one", y.route(1, 0, 3, -1), 9);
    }

    private static void routesOfLikeMinutes() {
        Check.sentence("the least minutes; of like ones ROOM by ROOM the first.");
        String square = "room a door 9 floor 9;room b door 9 floor 9;room c door 9 floor 9;room d door 9 floor 9;"
            + "way a c takes 3;way c d takes 4;way a b takes 4;way b d takes 3;";
        OwnChair x = Check.made(square + P);
        Check.due("7 by b as by c", x.route(0, 0, 3, -1), 7);
        Check.due("b is the first", x.route(0, 0, 3, 0), 1);
        OwnChair less = Check.made(square + "way c d takes 3;" + P);
        Check.due("6 by c", less.route(0, 0, 3, -1), 6);
        Check.due("c is the least", less.route(0, 0, 3, 0), 2);
        OwnChair straight = Check.made(square + "way a d takes 7;" + P);
        Check.due("7 by b, by c, and straight", straight.route(0, 0, 3, -1), 7);
        Check.due("b is the first of all", straight.route(0, 0, 3, 0), 1);
        Check.due("then d", straight.route(0, 0, 3, 1), 3);
        OwnChair down = Check.made(square + "way a d takes 7;person p strong 1 chair 1 wide 1 at d;");
        Check.due("straight to a comes ahead of b", down.route(0, 0, 0, 0), 0);
        Check.due("and is all of it", down.route(0, 0, 0, 1), -1);
    }

    private static void routesThatFit() {
        Check.sentence("by ways into ROOMS that it FITS (what is there now staying, but for itself)");
        for (int floor = 4; floor <= 6; floor++) {
            OwnChair x = Check.made("room a door 9 floor 9;room b door 9 floor " + floor + ";room c door 9 floor 9;way a b takes 1;"
                + "way b c takes 1;way a c takes 50;" + P + "person q strong 1 chair 1 wide 3 at b;");
            Check.due("2 beside 3 on " + floor, x.route(0, 0, 2, -1), floor >= 5 ? 2 : 50);
        }
        for (int door = 1; door <= 3; door++) {
            OwnChair x = Check.made("room a door 9 floor 9;room b door " + door + " floor 9;room c door 9 floor 9;way a b takes 1;"
                + "way b c takes 1;way a c takes 50;" + P);
            Check.due("2 through " + door, x.route(0, 0, 2, -1), door >= 2 ? 2 : 50);
            Check.due("by b, a way of one minute", x.route(0, 0, 2, 0), door >= 2 ? 1 : 2);
            Check.due("and another one", x.route(0, 0, 2, 1), door >= 2 ? 2 : -1);
            Check.due("to b itself", x.route(0, 0, 1, -1), door >= 2 ? 1 : -1);
        }
    }

    private static void noRoutes() {
        Check.sentence("NONE when there is none, it is broken, or there are none such.");
        OwnChair x = BoundsTown.busy();
        int[][] none = {
            // no ways to the yard; broken, even where it is; too wide
            {0, 3, 3, -1}, {0, 3, 3, 0}, {0, 2, 1, -1}, {0, 2, 0, -1}, {0, 2, 0, 0}, {0, 0, 1, -1}, {0, 0, 1, 0},
            // none such
            {4, 3, 0, -1}, {-1, 3, 0, -1}, {0, 4, 0, -1}, {0, -1, 0, -1}, {0, 3, 4, -1}, {0, 3, -1, -1}, {8, 3, 0, -1}, {0, 8, 0, -1},
            {0, 3, 8, -1}, {LEAST, 3, 0, -1}, {0, LEAST, 0, -1}, {0, 3, LEAST, -1}, {MOST, 3, 0, -1}, {0, MOST, 0, -1}, {0, 3, MOST, -1},
            // no such k
            {0, 3, 0, -2}, {0, 3, 0, 1}, {0, 3, 0, LEAST}, {0, 3, 0, MOST}, {0, 3, 1, 0}};
        for (int[] n : none) {
            Look.silent("route(" + n[0] + ", " + n[1] + ", " + n[2] + ", " + n[3] + ")", x, -1, y -> y.route(n[0], n[1], n[2], n[3]));
        }
        Look.silent("on a new object", new OwnChair(), -1, y -> y.route(0, 0, 0, -1));
        Look.silent("a good one changes nothing either", x, 5 + 9, y -> y.route(0, 3, 0, -1));
    }

    private static String rowOfEight() {
        StringBuilder text = new StringBuilder();
        for (int i = 0; i < 8; i++) {
            text.append("room r").append((char) ('a' + i)).append(" door 9 floor 99;");
        }
        for (int i = 0; i < 7; i++) {
            text.append("way r").append((char) ('a' + i)).append(" r").append((char) ('b' + i)).append(" takes 60;");
        }
        return text.toString();
    }

    private static void longestRoute() {
        Check.sentence("minutes (k NONE; 0 where it is), the k-th ROOM come to.");
        OwnChair x = Check.made(rowOfEight() + "person p strong 1 chair 1 wide 1 at ra;slow 9999;");
        Check.due("seven ways of 1059", x.route(0, 0, 7, -1), 7413);
        Check.due("by bearers", x.bearer(0, 7, -1), 7413);
        for (int k = 0; k < 7; k++) {
            Check.due("ROOM " + k, x.route(0, 0, 7, k), k + 1);
            Check.due("who goes way " + k, x.bearer(0, 7, k), 0);
        }
        Check.due("no eighth one", x.route(0, 0, 7, 7), -1);
        Check.due("no eighth way", x.bearer(0, 7, 7), -1);
    }

    private static void bearers() {
        Check.sentence("BEARERS of a chair to a ROOM: minutes (k NONE; 0 where it is), who goes the k-th way (of like ones the first).");
        OwnChair x = Check.made(ROW + P + Q + "slow if(strong=10,takes*10,25);");
        Check.due("0 where it is", x.bearer(0, 0, -1), 0);
        Check.due("nobody goes", x.bearer(0, 0, 0), -1);
        // p takes 22, 33 and 44, q 27, 28 and 29
        Check.due("the least minutes", x.bearer(0, 3, -1), 22 + 28 + 29);
        Check.due("p goes the first way", x.bearer(0, 3, 0), 0);
        Check.due("q the second", x.bearer(0, 3, 1), 1);
        Check.due("and the third", x.bearer(0, 3, 2), 1);
        Check.due("there is no fourth", x.bearer(0, 3, 3), -1);
        Check.due("no such k", x.bearer(0, 3, -2), -1);
    }

    private static void bearersOfLikeMinutes() {
        Check.sentence("the least minutes; of like ones the first by ROOMS.");
        String square = "room a door 9 floor 9;room b door 9 floor 9;room c door 9 floor 9;room d door 9 floor 9;"
            + "way a c takes 3;way c d takes 4;way a b takes 4;way b d takes 3;";
        OwnChair x = Check.made(square + P + "person q strong 40 chair 8 wide 3 at a;slow if(takes=3 and strong=40 or takes=4 and "
            + "strong=10,0,50);");
        Check.due("7 by b as by c", x.bearer(0, 3, -1), 7);
        Check.due("by b, where p goes first", x.bearer(0, 3, 0), 0);
        Check.due("and q then", x.bearer(0, 3, 1), 1);
        OwnChair like = Check.made(square + P + "person q strong 10 chair 8 wide 3 at a;");
        Check.due("of like ones the first", like.bearer(1, 3, 0), 0);
        OwnChair own = Check.made(square + P + "person q strong 10 chair 8 wide 3 at a;slow 1-own;");
        Check.due("one minute less by the second", own.bearer(1, 3, 0), 1);
    }

    private static void noBearers() {
        Check.sentence("NONE likewise.");
        OwnChair x = BoundsTown.busy();
        int[][] none = {{3, 3, -1}, {3, 3, 0}, {2, 1, -1}, {2, 0, -1}, {2, 0, 0}, {0, 1, -1}, {4, 0, -1}, {-1, 0, -1}, {3, 4, -1},
            {3, -1, -1}, {8, 0, -1}, {3, 8, -1}, {LEAST, 0, -1}, {MOST, 0, -1}, {3, LEAST, -1}, {3, MOST, -1}, {3, 0, -2}, {3, 0, 1},
            {3, 0, LEAST}, {3, 0, MOST}, {3, 1, 0}};
        for (int[] n : none) {
            Look.silent("bearer(" + n[0] + ", " + n[1] + ", " + n[2] + ")", x, -1, y -> y.bearer(n[0], n[1], n[2]));
        }
        Look.silent("on a new object", new OwnChair(), -1, y -> y.bearer(0, 0, -1));
        Look.silent("a good one changes nothing either", x, 7, y -> y.bearer(3, 0, -1));
    }

    private static void due(OwnChair x, int person, int minutes, String along, int... rows) {
        Check.due("errand of " + rows.length / 2 + " rows", Check.errand(x, person, rows), minutes);
        for (int k = 0; k < 13; k++) {
            Check.due("along(" + k + ")", x.along(k), k < along.length() ? along.charAt(k) - '0' : -1);
        }
        Check.due("the tape is gone", Look.tapeLength(x), 0);
    }

    private static void errands() {
        Check.sentence("on each way he takes his own chair along, if it is with him, whole and FITS, or leaves it where it is "
            + "(he never comes back for it but by the row): so that he SITS in each ROOM in which he must, with the least minutes");
        OwnChair x = Check.made(ROW + P + Q + "slow 5;");
        due(x, 0, 2, "0", 1, 0);
        due(x, 0, 7, "1", 1, 1);
        due(x, 0, 15, "11", 1, 0, 2, 1);
        due(x, 0, 10, "10", 1, 1, 2, 0);
        due(x, 0, 4, "00", 1, 0, 0, 1);
        due(x, 0, 11, "001", 1, 0, 0, 0, 1, 1);
        due(x, 0, 7 + 3 + 3 + 8, "1001", 1, 1, 2, 0, 1, 1, 2, 1);
        Check.sentence("(His CLOCK as it is now in each, nothing breaks.)");
        OwnChair y = Check.made(ROW + P + "slow clock;breaks 100;");
        y.stay(0, 10);
        due(y, 0, 12 + 13 + 14, "111", 1, 1, 2, 1, 3, 1);
        Check.due("no DRAW", y.has(10), 1);
        Check.due("nothing is broken", y.has(5), 0);
        Check.due("he has not gone", y.person(0, 0), 0);
    }

    private static void errandsOfLikeMinutes() {
        Check.sentence("of like ones the first, way by way without it ahead of with it.");
        OwnChair x = Check.made(ROW + P);
        due(x, 0, 2, "0", 1, 0);
        due(x, 0, 2, "1", 1, 1);
        due(x, 0, 6, "001", 1, 0, 0, 0, 1, 1);
        due(x, 0, 6, "111", 1, 1, 0, 1, 1, 1);
        due(x, 0, 8, "0000", 1, 0, 0, 0, 1, 0, 0, 1);
        due(x, 0, 19, "1001110", 1, 1, 2, 0, 1, 0, 0, 1, 1, 0, 2, 1, 3, 0);
    }

    private static void errandsThatCanNotBe() {
        Check.sentence("the least minutes; NONE, when it can't be");
        OwnChair x = Check.made(ROW + P + "room f door 1 floor 9;way a f takes 1;");
        due(x, 0, -1, "", 5, 1);
        due(x, 0, 1, "0", 5, 0);
        x.go(0, 1, -1);
        due(x, 0, -1, "", 2, 1, 1, 0);
        Check.due("none of them is refused", x.status(5), 0);
    }

    /** Rows that lead there and back again. */
    private static int[] rows(int many, int must) {
        int[] rows = new int[2 * many];
        for (int k = 0; k < many; k++) {
            rows[2 * k] = 1 - k % 2;
            rows[2 * k + 1] = must;
        }
        return rows;
    }

    private static void twelveRows() {
        Check.sentence("The tape (it goes) tells AN ERRAND of a PERSON, 1 to 12 rows of two bytes: the least minutes;");
        for (int many = 1; many <= 12; many++) {
            OwnChair x = Check.made(ROW + P + "slow 5;");
            due(x, 0, 7 * many, "1".repeat(many), rows(many, 1));
            due(x, 0, 2 * many, "0".repeat(many), rows(many, 0));
            Check.due("status(5)", x.status(5), 0);
        }
        OwnChair x = Check.made(ROW.replace("takes 2", "takes 60") + P + "slow 9999;");
        due(x, 0, 12 * 1059, "111111111111", rows(12, 1));
        OwnChair eight = Check.made(rowOfEight() + "person p strong 1 chair 1 wide 1 at rg;slow 1;");
        due(eight, 0, 12 * 60 + 3, "100000000110", 7, 1, 6, 0, 5, 0, 6, 0, 5, 0, 4, 0, 5, 0, 6, 0, 7, 1, 6, 0, 5, 1, 4, 0);
        due(eight, 0, 12 * 60 + 12, "111111111111", 7, 1, 6, 1, 7, 1, 6, 1, 7, 1, 6, 1, 7, 1, 6, 1, 7, 1, 6, 1, 7, 1, 6, 1);
        Check.sentence("AN ERRAND of one is a row of ROOMS, each one way from the one ahead of it (he is in the first one's neighbour "
            + "now), 12 at most, each told with 1 if he must SIT there, else 0");
        OwnChair y = Check.made(ROW + P);
        due(y, 0, 24, "000000000000", rows(12, 0));
        Check.due("13", Check.errand(y, 0, rows(13, 0)), -1);
        Check.due("it is refused", y.status(5), 1);
        Check.due("the one of 12 stays told", y.along(11), 0);
    }

    private static void refusedErrands() {
        Check.sentence("and, refused (5), when it is none such.");
        int[][] wrong = {
            // no row, half a row, more than 12 rows
            {}, {1}, {1, 0, 0}, rows(13, 0), rows(14, 0), new int[25], new int[1580],
            // a byte that is neither 1 nor 0
            {1, 2}, {1, 255}, {1, 0, 0, 2},
            // no way: where he is, where none leads, none such
            {0, 0}, {3, 0}, {4, 0}, {255, 0}, {1, 0, 1, 0}, {1, 0, 3, 0}, {1, 1, 4, 1}};
        for (int[] rows : wrong) {
            OwnChair x = BoundsTown.busy();
            Check.tape(x, rows);
            Look.refusedWithTape("errand of " + rows.length + " bytes", x, 5, y -> y.errand(0));
        }
        int[] nobody = {4, -1, 8, LEAST, MOST};
        for (int person : nobody) {
            OwnChair x = BoundsTown.busy();
            Check.tape(x, 1, 0);
            Look.refusedWithTape("errand(" + person + ")", x, 5, y -> y.errand(person));
        }
        OwnChair none = new OwnChair();
        Check.tape(none, 0, 0);
        Look.refusedWithTape("on a new object", none, 5, y -> y.errand(0));
    }

    private static void alongs() {
        Check.sentence("whether he has his chair with him on the k-th way (1, 0); NONE when there is none such, or it could not be.");
        OwnChair x = Check.made(ROW + P + "slow 5;room f door 1 floor 9;way a f takes 1;");
        Check.due("ahead of any", x.along(0), -1);
        due(x, 0, 10, "10", 1, 1, 2, 0);
        int[] none = {-1, 2, 11, 12, 13, LEAST, MOST};
        for (int k : none) {
            Look.silent("along(" + k + ")", x, -1, y -> y.along(k));
        }
        Check.errand(x, 0, 5, 1);
        Check.due("it could not be", x.along(0), -1);
        Check.due("nor the second way", x.along(1), -1);
        Check.due("but was not refused", x.status(5), 0);
    }

    private static void latestErrand() {
        Check.sentence("Of the latest errand() of this TOWN that was not refused");
        OwnChair x = Check.made(ROW + P + Q + "slow 5;");
        due(x, 0, 10, "10", 1, 1, 2, 0);
        Check.errand(x, 0, 3, 0);
        Check.due("a refused one leaves it", x.along(0) * 10 + x.along(1), 10);
        x.go(0, 1, -1);
        x.days(3);
        x.undo();
        x.undo();
        Check.due("acts leave it", x.along(0) * 10 + x.along(1), 10);
        due(x, 1, 2, "0", 0, 0);
        Check.due("a shorter one of another", x.along(1), -1);
        Check.town(x, "room");
        Check.due("a FAULT leaves it", x.along(0), 0);
        Check.town(x, ROW + P + Q);
        Check.due("another TOWN has none", x.along(0), -1);
    }

    private static String person(String name, int wide, String room) {
        return "person " + name + " strong 5 chair 5 wide " + wide + " at " + room + ";";
    }

    private static void seatedByDoorAndFloor() {
        Check.sentence("so many as can be of some PEOPLE who could SIT in a ROOM with their own chairs, all chairs that are not theirs "
            + "staying, theirs brought in or there");
        for (int door = 3; door <= 5; door++) {
            for (int floor = 5; floor <= 8; floor++) {
                OwnChair x = Check.made("room a door 9 floor 99;room b door " + door + " floor " + floor + ";" + person("p", 4, "a")
                    + person("q", 3, "b"));
                boolean both = door >= 4 && floor >= 7;
                Check.due("door " + door + ", floor " + floor, x.seated(1, 3), both ? 3 : 2);
                // q's chair stays, though nobody asks for q
                Check.due("p alone", x.seated(1, 1), both ? 1 : 0);
                Check.due("q is there", x.seated(1, 2), 2);
                Check.due("in a", x.seated(0, 3), 3);
            }
        }
        OwnChair broken = Check.made(ROW + person("p", 4, "a") + person("q", 5, "b") + "breaks 100;");
        broken.go(0, 1, 0);
        Check.due("a broken one can't be", broken.seated(1, 3), 2);
        Check.due("nor brought in", broken.seated(0, 1), 0);
    }

    private static void seatedOfLikeMany() {
        Check.sentence("of like many the least bits.");
        OwnChair x = Check.made("room a door 9 floor 99;room b door 9 floor 4;" + person("p", 3, "a") + person("q", 2, "a")
            + person("r", 2, "a") + person("s", 1, "a"));
        Check.due("p and s, q and r, q and s, r and s: the least bits", x.seated(1, 15), 6);
        Check.due("of p, r and s", x.seated(1, 13), 9);
        Check.due("of p and q", x.seated(1, 3), 1);
        Check.due("of p, q and r", x.seated(1, 7), 6);
        OwnChair more = Check.made("room a door 9 floor 99;room b door 9 floor 3;" + person("p", 3, "a") + person("q", 1, "a")
            + person("r", 1, "a") + person("s", 1, "a"));
        Check.due("three are more than one", more.seated(1, 15), 14);
    }

    private static void seatedJoined() {
        Check.sentence("joined ones both or none");
        for (int door = 4; door <= 6; door++) {
            for (int floor = 4; floor <= 6; floor++) {
                OwnChair x = Check.made("room a door 9 floor 99;room b door " + door + " floor " + floor + ";" + person("p", 2, "a")
                    + person("q", 3, "a") + "joined p q;");
                Check.due("both through " + door + " on " + floor, x.seated(1, 3), door >= 5 && floor >= 5 ? 3 : 0);
                Check.due("one of them", x.seated(1, 1) + x.seated(1, 2) + x.seated(0, 1) + x.seated(0, 2), 0);
                Check.due("both where they are", x.seated(0, 3), 3);
            }
        }
        OwnChair half = Check.made("room a door 9 floor 99;room b door 4 floor 9;" + person("p", 2, "a") + person("q", 3, "b")
            + "joined p q;");
        Check.due("one must come in through a door that is too small for both", half.seated(1, 3), 0);
        Check.due("the other way round", half.seated(0, 3), 3);
    }

    private static void seatedNone() {
        Check.sentence("who, as bits (0 when nobody can be). NONE when there are none such.");
        OwnChair x = BoundsTown.busy();
        int[][] none = {{4, 1}, {-1, 1}, {8, 1}, {0, 16}, {0, 17}, {0, 31}, {0, 255}, {0, 256}, {0, -1}, {LEAST, 1}, {MOST, 1}, {0, LEAST},
            {0, MOST}};
        for (int[] n : none) {
            Look.silent("seated(" + n[0] + ", " + n[1] + ")", x, -1, y -> y.seated(n[0], n[1]));
        }
        Look.silent("nobody asked for", x, 0, y -> y.seated(0, 0));
        Look.silent("nobody can be", x, 0, y -> y.seated(2, 3));
        Look.silent("all that there are", x, 11, y -> y.seated(0, 15));
        Look.silent("on a new object", new OwnChair(), -1, y -> y.seated(0, 0));
        OwnChair empty = Check.made(ROW);
        Look.silent("nobody there", empty, 0, y -> y.seated(4, 0));
        Look.silent("none such", empty, -1, y -> y.seated(4, 1));
        StringBuilder text = new StringBuilder(rowOfEight());
        for (int i = 0; i < 8; i++) {
            text.append(person("p" + (char) ('a' + i), 9, "ra"));
        }
        OwnChair most = Check.made(text.toString());
        Look.silent("all eight", most, 255, y -> y.seated(7, 255));
        Look.silent("the eighth alone", most, 128, y -> y.seated(7, 128));
        Look.silent("a ninth", most, -1, y -> y.seated(7, 256));
    }

    private static void standing() {
        Check.sentence("ways to put each of the PEOPLE into a ROOM (chairs as they are), so that just so many do not SIT in each "
            + "ROOM told; in how many of these one is in a ROOM.");
        String rooms = "room a door 9 floor 9;room b door 9 floor 9;room c door 9 floor 9;";
        OwnChair x = Check.made(rooms + person("p", 1, "a") + person("q", 1, "b"));
        // of nine ways: p stands in b and c, q in a and c
        Check.due("none in a", Check.standing(x, 0, 0), 6);
        Check.due("one in a", Check.standing(x, 0, 1), 3);
        Check.due("two in a", Check.standing(x, 0, 2), 0);
        Check.due("two in c", Check.standing(x, 2, 2), 1);
        Check.due("one in c", Check.standing(x, 2, 1), 4);
        Check.due("where p is in c", x.where(0, 2), 2);
        Check.due("where p is in a", x.where(0, 0), 1);
        Check.due("where q is in c", x.where(1, 2), 2);
        Check.due("where q is in a", x.where(1, 0), 1);
        Check.due("where q is in b", x.where(1, 1), 1);
        Check.due("none anywhere", Check.standing(x, 0, 0, 1, 0, 2, 0), 1);
        Check.due("one in a, one in b", Check.standing(x, 0, 1, 1, 1), 1);
        OwnChair joined = Check.made(rooms + person("p", 1, "a") + person("q", 1, "b") + "joined p q;");
        Check.due("joined ones stand anywhere: none in a", Check.standing(joined, 0, 0), 4);
    }

    private static void eightRows() {
        Check.sentence("The tape (it goes) tells who is STANDING, 1 to 8 rows of two bytes, unlike ROOMS: how many ways there are;");
        StringBuilder text = new StringBuilder(rowOfEight());
        for (int i = 0; i < 8; i++) {
            text.append(person("p" + (char) ('a' + i), 1, "ra"));
        }
        for (int many = 1; many <= 8; many++) {
            OwnChair x = Check.made(text.toString());
            int[] rows = new int[2 * many];
            for (int k = 0; k < many; k++) {
                rows[2 * k] = 7 - k;
            }
            Check.due(many + " rows", Check.standing(x, rows), (long) Math.pow(many == 8 ? 1 : 8 - many, 8));
            Check.due("the tape is gone", Look.tapeLength(x), 0);
            Check.due("status(5)", x.status(5), 0);
        }
        OwnChair x = Check.made(text.toString());
        // all eight stand in the last one
        Check.due("eight in one", Check.standing(x, 7, 8), 1);
        Check.due("the most ways: nobody ever stands in a", Check.standing(x, 0, 0), 16777216);
        Check.due("in how many one is in the first", x.where(7, 0), 2097152);
        Check.due("one in each but a", Check.standing(x, 1, 1, 2, 1, 3, 1, 4, 1, 5, 1, 6, 1, 7, 1, 0, 0), 40320);
        oneInEach();
    }

    /** Pairs whose chairs are apart stand wherever they are: one in each of eight ROOMS. */
    private static void oneInEach() {
        StringBuilder apart = new StringBuilder(rowOfEight());
        for (int i = 0; i < 8; i++) {
            apart.append(person("p" + (char) ('a' + i), 1, i % 2 == 0 ? "ra" : "rb"));
        }
        OwnChair x = Check.made(apart + "joined pa pb;joined pc pd;joined pe pf;joined pg ph;");
        Check.due("nobody sits", x.has(4), 0);
        Check.due("one in each of eight", Check.standing(x, 0, 1, 1, 1, 2, 1, 3, 1, 4, 1, 5, 1, 6, 1, 7, 1), 40320);
        for (int person = 0; person < 8; person++) {
            for (int room = 0; room < 8; room++) {
                Check.due("where(" + person + ", " + room + ")", x.where(person, room), 5040);
            }
        }
        Check.due("two in each of four", Check.standing(x, 4, 2, 5, 2, 6, 2, 7, 2), 2520);
        Check.due("where(7, 7)", x.where(7, 7), 630);
        Check.due("where(0, 4)", x.where(0, 4), 630);
        Check.due("eight in the first", Check.standing(x, 0, 8), 1);
        Check.due("where(7, 0)", x.where(7, 0), 1);
    }

    private static void standingCounts() {
        Check.sentence("STANDING is told by rows of ROOM, how many stand there");
        OwnChair x = Check.made(ROW + person("p", 1, "a") + person("q", 1, "b"));
        int[] many = {3, 8, 9, 127, 128, 254, 255};
        for (int n : many) {
            Check.due(n + " of two", Check.standing(x, 4, n), 0);
            Check.due("told all the same", x.where(0, 0), 0);
            Check.due("none anywhere but where they sit", Check.standing(x, 0, 0, 1, 0, 2, 0, 3, 0, 4, 0), 1);
            Check.due("where p sits", x.where(0, 0), 1);
            Check.due(n + " of two in each", Check.standing(x, 0, n, 1, n, 2, n, 3, n, 4, n), 0);
            Check.due("no ways are left of the one ahead", x.where(0, 0), 0);
        }
        Check.due("status(5)", x.status(5), 0);
        OwnChair nobody = Check.made(ROW);
        Check.due("of nobody none stands: the one way there is", Check.standing(nobody, 0, 0), 1);
        Check.due("of nobody one stands", Check.standing(nobody, 0, 1), 0);
    }

    private static void refusedStandings() {
        Check.sentence("NONE, refused (5), when it is none such.");
        int[][] wrong = {
            // no row, half a row, more than 8 rows
            {}, {0}, {0, 0, 1}, {0, 0, 1, 0, 2, 0, 3, 0, 4, 0, 5, 0, 6, 0, 7, 0, 8, 0}, new int[18], new int[17], new int[1580],
            // the same ROOM twice, none such
            {0, 0, 0, 0}, {0, 0, 1, 0, 0, 1}, {3, 1, 3, 2}, {4, 0}, {0, 0, 4, 0}, {8, 0}, {255, 0}, {128, 1}};
        for (int[] rows : wrong) {
            OwnChair x = BoundsTown.busy();
            Check.tape(x, rows);
            Look.refusedWithTape("standing of " + rows.length + " bytes", x, 5, OwnChair::standing);
        }
        OwnChair none = new OwnChair();
        Check.tape(none, 0, 0);
        Look.refusedWithTape("on a new object", none, 5, OwnChair::standing);
        StringBuilder text = new StringBuilder(rowOfEight());
        OwnChair eight = Check.made(text.toString());
        Check.tape(eight, 0, 0, 1, 0, 2, 0, 3, 0, 4, 0, 5, 0, 6, 0, 7, 0, 0, 0);
        Look.refusedWithTape("nine rows where there are eight ROOMS", eight, 5, OwnChair::standing);
        Check.tape(eight, 0, 0, 1, 0, 2, 0, 3, 0, 4, 0, 5, 0, 6, 0, 6, 0);
        Look.refusedWithTape("eight rows, two alike", eight, 5, OwnChair::standing);
    }

    private static void wheres() {
        Check.sentence("in how many ways one is in a ROOM; NONE ahead of any, or when there are none such.");
        OwnChair x = Check.made(ROW + person("p", 1, "a") + person("q", 1, "b"));
        for (int person = 0; person < 2; person++) {
            for (int room = 0; room < 5; room++) {
                Check.due("ahead of any", x.where(person, room), -1);
            }
        }
        Check.due("all sit or are in a to d", Check.standing(x, 4, 0), 16);
        Check.due("the last ROOM", x.where(1, 4), 0);
        Check.due("the first", x.where(0, 0), 4);
        int[][] none = {{2, 0}, {-1, 0}, {0, 5}, {0, -1}, {7, 0}, {8, 0}, {0, 8}, {0, 7}, {LEAST, 0}, {MOST, 0}, {0, LEAST}, {0, MOST}};
        for (int[] n : none) {
            Look.silent("where(" + n[0] + ", " + n[1] + ")", x, -1, y -> y.where(n[0], n[1]));
        }
        OwnChair eight = Check.made(rowOfEight() + person("p", 1, "ra"));
        Check.standing(eight, 7, 1);
        Check.due("in the eighth ROOM", eight.where(0, 7), 1);
        Check.due("a ninth", eight.where(0, 8), -1);
    }

    private static void latestStanding() {
        Check.sentence("Of the latest standing() of this TOWN that was not refused (as it was then)");
        OwnChair x = Check.made(ROW + person("p", 1, "a") + person("q", 1, "b"));
        Check.due("one in a", Check.standing(x, 0, 1), 5);
        Check.due("where q is in a", x.where(1, 0), 5);
        Check.standing(x, 0, 1, 0, 1);
        Check.due("a refused one leaves it", x.where(1, 0), 5);
        x.go(0, 1, 0);
        Check.due("as it was then", x.where(1, 0), 5);
        Check.town(x, "room");
        Check.due("a FAULT leaves it", x.where(1, 0), 5);
        // p's chair is in b now: two may stand in a
        Check.due("two in a", Check.standing(x, 0, 2), 1);
        Check.due("another one takes its place", x.where(0, 0), 1);
        Check.town(x, ROW + person("p", 1, "a") + person("q", 1, "b"));
        Check.due("another TOWN has none", x.where(0, 0), -1);
    }
}
