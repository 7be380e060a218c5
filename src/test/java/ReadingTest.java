/**
 * The document read from its first line: the sentences that name no boundary (those that do are held by the
 * Bounds tests), in the document's order.
 */
public final class ReadingTest {
    private static final String ROOMS = "room a door 9 floor 99;room b door 9 floor 99;room c door 9 floor 99;"
        + "way a b takes 7;way b c takes 20;";
    private static final String P = "person p strong 4 chair 30 wide 2 at a;";
    private static final String Q = "person q strong 90 chair 5 wide 3 at a;";
    private static final String[] OWN_WORDS = {"room", "door", "floor", "way", "takes", "person", "strong", "chair", "wide", "at",
        "joined", "slow", "stands", "breaks", "weight", "clock", "own", "if", "or", "and", "not", "all", "min", "max", "carpenter"};

    public static void main(String[] args) {
        fiveHundredCalls();
        nobodyOnAnothersChair();
        peopleAndChairs();
        whatIsAsked();
        text();
        sums();
        products();
        parts();
        ownWordsForNames();
        names();
        fits();
        seatsOfTheJoined();
        goesWithout();
        theChairIsThereThen();
        waits();
        acts();
        daysAreTheSame();
        routeFromWhereItIs();
        bearersAsIfThere();
        errandLeavesTheChair();
        seatedAsBits();
        imageOfEach();
        tapeInOrder();
        mended();
        Check.finish();
    }

    private static void fiveHundredCalls() {
        Check.sentence("An object is used for at most 512 calls after it has been made");
        OwnChair x = new OwnChair();
        // "room a door 9 floor 9;person p strong 1 chair 1 wide 1 at a;", fed by hand so that the calls can be counted
        x.feed(0x726f6f6d, 0x20612064, 0x6f6f7220, 0x3920666c, 0x6f6f7220);
        x.feed(0x393b7065, 0x72736f6e, 0x20702073, 0x74726f6e, 0x67203120);
        x.feed(0x63686169, 0x72203120, 0x77696465, 0x20312061, 0x7420613b);
        Check.due("town()", x.town(), 2);
        for (int call = 5; call <= 507; call++) {
            Check.due("call " + call, x.stay(0, 1), 0);
        }
        Check.due("call 508", x.person(0, 4), 503);
        Check.due("call 509", x.has(9), 20);
        Check.due("call 510", x.undo(), true);
        Check.due("call 511", x.person(0, 4), 502);
        Check.due("call 512", x.has(9), 19);
    }

    private static void nobodyOnAnothersChair() {
        Check.sentence("Nobody sits but on his own chair");
        OwnChair x = Check.made(ROOMS + P + Q);
        Check.due("each on his own", x.room(0, 5), 3);
        x.go(1, 1, 0);
        Check.due("p's chair has gone, q's stands beside p", x.room(0, 4), 2);
        Check.due("p does not sit on it", x.person(0, 3), 0);
        Check.due("q is where p's chair is", x.room(1, 3) * 10 + x.room(1, 4), 21);
        Check.due("and does not sit on it", x.person(1, 3), 0);
        Check.due("nobody sits", x.has(4), 0);
        Check.due("nobody could be seated on the other's", x.seated(0, 1) * 10 + x.seated(1, 2), 12);
        x.go(0, 1, -1);
        Check.due("p has come to his", x.room(1, 5), 1);
    }

    private static void peopleAndChairs() {
        Check.sentence("people go with it or without, carry others' chairs, wait sitting or standing; chairs break by a seed and are "
            + "mended where the carpenter is.");
        OwnChair x = Check.made(ROOMS + P + Q + "breaks 19;carpenter c;");
        x.seed(12345);
        Check.due("with it", x.go(0, 1, 0), 7);
        Check.due("it holds", x.person(0, 2), 0);
        Check.due("sitting", x.stay(0, 3), 0);
        Check.due("without", x.go(1, 1, -1), 7);
        Check.due("standing", x.stay(1, 3), 3);
        x.seed(1);
        Check.due("another one's", x.go(1, 2, 0), 30);
        Check.due("18 is below 19", x.person(0, 2), 1);
        Check.due("q is with the carpenter", x.mend(1, 0), true);
        Check.due("p is not", x.person(0, 0), 1);
        Check.due("it is whole", x.has(5), 0);
        OwnChair y = Check.made(ROOMS + P + "breaks 50;");
        OwnChair z = Check.made(ROOMS + P + "breaks 50;");
        for (int i = 0; i < 40; i++) {
            y.seed(i);
            z.seed(i);
            y.go(0, 1, 0);
            z.go(0, 1, 0);
            Check.due("the same seed, the same chance " + i, y.has(5), z.has(5));
            y.undo();
            z.undo();
        }
    }

    private static void whatIsAsked() {
        Check.sentence("Asked are: who sits, the shortest way with a chair, the least carrying for an errand through rooms in each of "
            + "which one must sit or may stand, in how little a chair comes by bearers, most people seated in a room, who is where by "
            + "how many stand, whose chairs can be put where by doors; days by a seed; what was carried kept; acts undone; images.");
        OwnChair x = Check.made("room a door 9 floor 99;room b door 2 floor 4;room c door 9 floor 99;way a b takes 7;way b c takes 20;"
            + "way a c takes 28;" + P + Q + "slow weight/strong;");
        Check.due("who sits", x.room(0, 5), 3);
        Check.due("the shortest way", x.route(0, 0, 2, -1), 35);
        Check.due("straight", x.route(0, 0, 2, 0), 2);
        Check.due("by bearers", x.bearer(0, 2, -1), 27);
        Check.due("by b", x.bearer(0, 2, 0) * 10 + x.bearer(0, 2, 1), 11);
        Check.due("an errand to b and back, sitting at home", Check.errand(x, 0, 1, 0, 0, 1), 14);
        Check.due("an errand sitting in b and at home", Check.errand(x, 0, 1, 1, 0, 1), 28);
        Check.due("with it there and back", x.along(0) * 10 + x.along(1), 11);
        Check.due("seated in b", x.seated(1, 3), 1);
        Check.due("two stand in b", Check.standing(x, 1, 2), 1);
        Check.due("p is there", x.where(0, 1), 1);
        Check.due("whose chairs can be put into b", x.fits(0, 1) * 10 + x.fits(1, 1), 10);
        Check.due("into c", x.fits(0, 2) * 10 + x.fits(1, 2), 11);
        Check.due("a day", x.days(1) >= 0, true);
        Check.due("what was carried", x.has(8), 2 - Integer.bitCount(x.room(0, 4)));
        Check.due("undone", x.undo(), true);
        Check.due("nothing is kept", x.has(8), 0);
        Check.due("an image", x.image(), 19);
    }

    private static void text() {
        Check.sentence("A TOWN is a text: { STATEMENT ; }");
        Check.good("", 0);
        Check.good("breaks 1;", 1);
        Check.good("slow 1;stands 1;breaks 1;room a door 1 floor 1;carpenter a;", 5);
        Check.faultAt(1, "breaks 1^");
        Check.faultAt(1, "^;");
        Check.faultAt(1, "breaks 1;^;");
        Check.faultAt(1, "breaks 1 ^breaks 2;");
        Check.faultAt(1, "breaks 1^,breaks 2;");
        Check.faultAt(1, "^a");
        Check.faultAt(1, "^1");
        Check.faultAt(1, "^door 1;");
        // the kinds in any order, each as soon as the NAMES it asks for are told
        OwnChair x = Check.made("stands 2;room b door 5 floor 6;carpenter b;slow 3;person q strong 7 chair 8 wide 4 at b;breaks 9;"
            + "room a door 1 floor 2;way b a takes 50;");
        Check.due("ROOMS in the order of the text", x.letter(0, 0, 0) * 100 + x.letter(0, 1, 0), 201);
        Check.due("doors", x.room(0, 0) * 10 + x.room(1, 0), 51);
        Check.due("floors", x.room(0, 1) * 10 + x.room(1, 1), 62);
        Check.due("the way", x.way(1, 0), 50);
        Check.due("strong, weight, width", x.person(0, 7) * 100 + x.person(0, 8) * 10 + x.person(0, 9), 784);
        Check.due("breaks and the carpenter's ROOM", x.has(2) * 10 + x.has(3), 90);
    }

    /** What slow adds to a way of 7 minutes when p carries his own chair. */
    private static int slow(String sum) {
        return Check.made(ROOMS + P + Q + "slow " + sum + ";").takes(0, 1, 0) - 7;
    }

    private static void sums() {
        Check.sentence("SUM: PRODUCT { + or - PRODUCT }.");
        Check.due("one PRODUCT", slow("5"), 5);
        Check.due("two", slow("5+6"), 11);
        Check.due("three", slow("5+6-4"), 7);
        Check.due("PRODUCTS", slow("5*6+7*8-2*3"), 80);
        Check.faultAt(1, "slow ^;");
        Check.faultAt(1, "slow ^+5;");
        Check.faultAt(1, "slow ^-5;");
        Check.faultAt(1, "slow 5+^;");
        Check.faultAt(1, "slow 5-^;");
        Check.faultAt(1, "slow 5+^-5;");
        Check.faultAt(1, "slow 5 ^5;");
        Check.faultAt(1, "slow 5^<6;");
        Check.faultAt(1, "slow 5 ^and 6;");
        Check.faultAt(1, "slow ^all;");
        Check.faultAt(1, "slow ^not 1<2;");
        Check.faultAt(1, "slow ^[1<2];");
    }

    private static void products() {
        Check.sentence("PRODUCT: PART { * or / or % PART }.");
        Check.due("one PART", slow("9"), 9);
        Check.due("*", slow("9*4"), 36);
        Check.due("/", slow("9/4"), 2);
        Check.due("%", slow("9%4"), 1);
        Check.due("PARTS are ahead of SUMS", slow("100-9*4/6%4"), 98);
        Check.faultAt(1, "slow ^*5;");
        Check.faultAt(1, "slow 5*^;");
        Check.faultAt(1, "slow 5/^;");
        Check.faultAt(1, "slow 5%^;");
        Check.faultAt(1, "slow 5*^-5;");
        Check.faultAt(1, "slow 5*^*5;");
    }

    private static void parts() {
        Check.sentence("PART: N; takes; weight; strong; wide; clock; own; ( SUM ) ; min ( SUM , SUM ) ; max ( SUM , SUM ) ; "
            + "if ( TEST , SUM , SUM )");
        String[] sums = {"0", "9", "0099", "takes", "weight", "strong", "wide", "clock", "own", "(5)", "((5+6))", "2*(5+6)", "min(5,6)",
            "min(6,5)", "max(5,6)", "max(6,5)", "min(5+6,2*3)", "max ( 5 + 6 , 2 * 3 )", "if(1<2,3,4)", "if(2<1,3,4)",
            "if(1<2,if(2<1,3,4),5)", "max(min(1,2),min(3,4))", "min(takes,weight)"};
        int[] due = {0, 9, 99, 7, 30, 4, 2, 0, 1, 5, 11, 22, 5, 5, 6, 6, 6, 11, 3, 4, 4, 3, 7};
        for (int i = 0; i < sums.length; i++) {
            Check.due(sums[i], slow(sums[i]), due[i]);
        }
        String[] faults = {"(^)", "(5^", "(5^;", "(5^,6)", "(5^]", "^)", "^[5]", "min^;", "min ^5", "min(^)", "min(5^)", "min(5,^)",
            "min(5,6^,7)", "min^[5,6]", "max^;", "max(5^)", "max(^,6)", "max(5,6^;", "if^;", "if(^)", "if(5^)", "if(5^,6,7)", "if(1<2^)",
            "if(1<2,3^)", "if(1<2,3,^)", "if(1<2,3,4^,5)", "if(1<2^;3;4)", "if(^,3,4)", "if((1^<2),3,4)", "if([1<2^),3,4)",
            "if(1<2^<3,3,4)", "if(1^!2,3,4)", "if(1<^<2,3,4)", "if(1<2 or^,3,4)", "if(1<2 and^,3,4)", "if(not^,3,4)", "if([^],3,4)",
            "if(all^<2,3,4)", "if(1<^all,3,4)", "^room", "^a", "^at", "^stands"};
        for (String fault : faults) {
            Check.faultAt(1, "slow " + fault);
            Check.faultAt(1, "stands " + fault);
        }
    }

    private static void ownWordsForNames() {
        Check.sentence("an OWN WORD where a NAME must be");
        String told = ROOMS + P + Q;
        String[] ahead = {"room ", told + "way ", told + "way a ", told + "person ", told + "person r strong 1 chair 1 wide 1 at ",
            told + "joined ", told + "joined p ", told + "carpenter "};
        for (String word : OWN_WORDS) {
            for (String text : ahead) {
                Check.faultAt(1, text + "^" + word);
                Check.faultAt(1, text + "\n^" + word + ";");
            }
            Check.good("room x" + word.substring(0, Math.min(5, word.length())) + " door 1 floor 1;", 1);
        }
    }

    private static void names() {
        Check.sentence("unlike ones (of all sorts), told ahead of where they are asked.");
        Check.faultAt(2, "room a door 1 floor 1;room ^a");
        Check.faultAt(2, ROOMS + "person ^a");
        Check.faultAt(2, ROOMS + P + "room ^p");
        Check.faultAt(2, ROOMS + P + "person ^p");
        Check.faultAt(3, "carpenter ^a;room a door 1 floor 1;");
        Check.faultAt(3, "room a door 1 floor 1;way a ^b takes 1;room b door 1 floor 1;");
        Check.faultAt(3, "person p strong 1 chair 1 wide 1 at ^a;room a door 9 floor 9;");
        Check.faultAt(3, "person p strong 1 chair 1 wide 1 at ^p;");
        Check.faultAt(3, ROOMS + P + "joined p ^q;" + Q);
        Check.faultAt(3, ROOMS + P + Q + "joined ^a p;");
        Check.faultAt(3, ROOMS + P + Q + "carpenter ^p;");
        Check.faultAt(3, ROOMS + P + Q + "way a ^p takes 1;");
        Check.good("room a door 1 floor 1;room aa door 1 floor 1;room ab door 1 floor 1;room b door 1 floor 1;", 4);
    }

    private static void fits() {
        Check.sentence("It FITS a ROOM, if it is no wider for doors than the door, and all chairs there and it are together "
            + "no wider than the floor.");
        // p's chair is 2 wide; beside q's, which is 3 wide, it asks for 5
        int[][] doorAndFloor = {{3, 5, 1}, {3, 4, 0}, {9, 4, 0}, {9, 5, 1}, {9, 99, 1}};
        for (int[] one : doorAndFloor) {
            OwnChair x = Check.made("room a door 9 floor 99;room b door " + one[0] + " floor " + one[1] + ";" + P
                + Q.replace("at a", "at b"));
            Check.due("through " + one[0] + " onto " + one[1] + " beside 3", x.fits(0, 1), one[2]);
        }
        OwnChair narrow = Check.made("room a door 9 floor 99;room b door 1 floor 99;way a b takes 1;" + P);
        Check.due("the floor alone is not enough", narrow.fits(0, 1), 0);
        OwnChair broken = Check.made(ROOMS + P + "breaks 100;");
        broken.go(0, 1, 0);
        Check.due("a broken one FITS as a whole one does", broken.fits(0, 0), 1);
        Check.due("but is not taken", broken.takes(0, 0, 0), -1);
    }

    private static void seatsOfTheJoined() {
        Check.sentence("One SITS, if his own chair, whole, is in his ROOM; joined ones sit only if both chairs are in that ROOM.");
        OwnChair x = Check.made(ROOMS + P + Q + "joined p q;person r strong 1 chair 1 wide 1 at a;");
        Check.due("all sit", x.room(0, 5), 7);
        x.go(1, 1, 1);
        Check.due("q's chair has gone: p stands, r sits", x.room(0, 5), 4);
        Check.due("q stands where his is", x.room(1, 5), 0);
        x.go(0, 1, -1);
        Check.due("p is there, his chair is not", x.room(1, 5), 0);
        x.go(2, 1, 0);
        Check.due("r has brought it", x.room(1, 5), 3);
        Check.due("r's own is in a", x.person(2, 3), 0);
    }

    private static void goesWithout() {
        Check.sentence("One GOES by a way to a ROOM: without a chair his CLOCK is later by what it takes;");
        OwnChair x = Check.made(ROOMS + P + Q + "slow 100;breaks 100;");
        Check.due("takes", x.takes(0, 1, -1), 7);
        Check.due("by a way of 7", x.go(0, 1, -1), 7);
        Check.due("by a way of 20", x.go(0, 2, -1), 27);
        Check.due("back", x.go(0, 1, -1), 47);
        Check.due("he is there", x.room(1, 3), 1);
        Check.due("nobody else's CLOCK is later", x.person(1, 4), 0);
        Check.due("his chair stays", x.room(0, 4), 3);
        Check.due("nothing is KEPT", x.has(8), 0);
        Check.due("no DRAW", x.has(10), 1);
        Check.due("no ACHE", x.has(7), 0);
        Check.due("without a way", x.go(1, 2, -1), -1);
    }

    private static void theChairIsThereThen() {
        Check.sentence("and the chair is there then;");
        OwnChair x = Check.made(ROOMS + P + Q);
        x.go(0, 1, 0);
        Check.due("his own", x.person(0, 1), 1);
        Check.due("with him", x.person(0, 0), 1);
        Check.due("in the ROOM's bits", x.room(1, 4) * 10 + x.room(0, 4), 12);
        Check.due("in its width", x.room(1, 2) * 10 + x.room(0, 2), 23);
        x.go(1, 1, -1);
        x.go(1, 2, 0);
        Check.due("another one's", x.person(0, 1), 2);
        Check.due("without its owner", x.person(0, 0), 1);
        Check.due("who carried it is there", x.person(1, 0), 2);
        Check.due("his own is not", x.person(1, 1), 0);
    }

    private static void waits() {
        Check.sentence("One WAITS n minutes: his CLOCK is later by these;");
        OwnChair x = Check.made(ROOMS + P + Q + "stands 2;");
        Check.due("sitting", x.stay(0, 15), 0);
        Check.due("his CLOCK", x.person(0, 4), 15);
        x.go(1, 1, -1);
        Check.due("standing", x.stay(1, 40), 2);
        Check.due("his CLOCK", x.person(1, 4), 47);
        Check.due("once more", x.stay(1, 1), 4);
        Check.due("his CLOCK", x.person(1, 4), 48);
        Check.due("the other one's stays", x.person(0, 4), 15);
        Check.due("no DRAW", x.has(10), 1);
    }

    private static void acts() {
        Check.sentence("ACTS: these, and a DAY by the seed:");
        OwnChair x = Check.made(ROOMS + P + Q + "breaks 100;carpenter b;");
        x.go(0, 1, -1);
        Check.due("one GOES", x.has(9), 1);
        x.go(1, 1, 0);
        Check.due("with a chair, too", x.has(9), 2);
        x.stay(0, 1);
        Check.due("one WAITS", x.has(9), 3);
        x.mend(0, 0);
        Check.due("one has a chair MENDED", x.has(9), 4);
        x.days(1);
        Check.due("a DAY", x.has(9), 5);
        Look.Call[] others = {y -> Look.bit(y.seed(9)), y -> y.feed(0, 0, 0, 0, 0), y -> Look.bit(y.end(2)), y -> y.standing(), y -> y.image(),
            y -> y.octet(0), y -> y.seated(0, 3), y -> y.takes(0, 0, -1), y -> y.route(0, 0, 2, -1), y -> y.bearer(0, 2, -1),
            y -> Check.errand(y, 0, y.person(0, 0) == 1 ? 0 : 1, 0), y -> y.along(0), y -> y.where(0, 0), y -> y.fits(0, 2), y -> y.kept(0, 0),
            y -> y.status(0), y -> y.fault(0), y -> y.letter(0, 0, 0), y -> y.room(0, 0), y -> y.way(0, 1), y -> y.person(0, 0)};
        for (int i = 0; i < others.length; i++) {
            others[i].of(x);
            Check.due("no ACT: " + i, x.has(9), 5);
        }
        for (int left = 4; left >= 0; left--) {
            Check.due("undo", x.undo(), true);
            Check.due("left", x.has(9), left);
        }
    }

    private static void daysAreTheSame() {
        Check.sentence("and a DAY by the seed: for each of the PEOPLE, by numbers:");
        for (int seed = 0; seed < 200; seed += 7) {
            OwnChair days = Check.made(ROOMS + P + Q + "breaks 30;slow own*3+clock%5;");
            OwnChair again = Check.made(ROOMS + P + Q + "breaks 30;slow own*3+clock%5;");
            days.seed(seed);
            again.seed(seed);
            int carried = 0;
            for (int i = 0; i < 6; i++) {
                carried += days.days(1);
            }
            Check.due("six days from " + seed, again.days(6), carried);
            Check.due("the seed behind them", again.has(10), days.has(10));
            Check.due("carried and KEPT", again.has(8), carried);
            Check.due("an image", days.image(), again.image());
            for (int k = 0; k < 19; k++) {
                Check.due("octet(" + k + ") from " + seed, again.octet(k), days.octet(k));
            }
        }
    }

    private static void routeFromWhereItIs() {
        Check.sentence("A ROUTE of a chair, by one who carries it all the way from where it is:");
        OwnChair x = Check.made(ROOMS + P + Q + "slow if(own=1,10,1);");
        Check.due("by p", x.route(0, 0, 2, -1), 7 + 20 + 20);
        Check.due("by q", x.route(1, 0, 2, -1), 7 + 20 + 2);
        x.go(0, 1, -1);
        x.go(0, 2, -1);
        Check.due("from where it is, not from where he is", x.route(0, 0, 2, -1), 47);
        Check.due("its first ROOM", x.route(0, 0, 2, 0), 1);
        x.go(1, 1, 0);
        Check.due("from b now", x.route(0, 0, 2, -1), 30);
        Check.due("straight to c", x.route(0, 0, 2, 0), 2);
        Check.due("back to a", x.route(0, 0, 0, -1), 17);
        Check.due("nothing has moved", x.person(0, 1), 1);
    }

    private static void bearersAsIfThere() {
        Check.sentence("BEARERS of a chair to a ROOM: each way is gone by one of all PEOPLE as if he were there:");
        OwnChair x = Check.made(ROOMS + "room d door 9 floor 9;" + P + Q + "person r strong 50 chair 5 wide 1 at d;"
            + "slow if(takes=7,if(strong=90,1,9),if(strong=50,2,9));");
        Check.due("q on the first way, r on the second", x.bearer(0, 2, -1), 7 + 1 + 20 + 2);
        Check.due("q", x.bearer(0, 2, 0), 1);
        Check.due("r, from whose ROOM there is no way", x.bearer(0, 2, 1), 2);
        Check.due("no third way", x.bearer(0, 2, 2), -1);
        OwnChair late = Check.made(ROOMS + P + Q + "slow clock;");
        late.stay(0, 5);
        late.stay(1, 6);
        Check.due("each by his own CLOCK", late.bearer(1, 2, -1), 27 + 10);
        Check.due("the chair's owner is no better than others", late.bearer(1, 2, 0), 0);
    }

    private static void errandLeavesTheChair() {
        Check.sentence("on each way he takes his own chair along, if it is with him, whole and FITS, or leaves it where it is "
            + "(he never comes back for it but by the row): so that he SITS in each ROOM in which he must, with the least minutes;");
        OwnChair x = Check.made(ROOMS + P + "slow 5;");
        Check.due("to b, to a, to b, sitting there at last", Check.errand(x, 0, 1, 0, 0, 0, 1, 1), 7 + 7 + 12);
        Check.due("he comes back for it by the row", x.along(0) * 100 + x.along(1) * 10 + x.along(2), 1);
        Check.due("to b and c, sitting in c", Check.errand(x, 0, 1, 0, 2, 1), 12 + 25);
        Check.due("to b, to c, to b, sitting in b", Check.errand(x, 0, 1, 1, 2, 0, 1, 1), 12 + 20 + 20);
        Check.due("it waits in b", x.along(0) * 100 + x.along(1) * 10 + x.along(2), 100);
        Check.due("his chair has not moved", x.person(0, 1) * 10 + x.person(0, 0), 0);
        Check.due("his CLOCK neither", x.person(0, 4), 0);
        x.go(0, 1, -1);
        Check.due("without it at first: he can't sit in c", Check.errand(x, 0, 2, 1), -1);
        Check.due("that is no refusal", x.status(5), 0);
        Check.due("he gets it", Check.errand(x, 0, 0, 0, 1, 0, 2, 1), 7 + 12 + 25);
        Check.due("on the second way", x.along(0) * 100 + x.along(1) * 10 + x.along(2), 11);
    }

    private static void seatedAsBits() {
        Check.sentence("SEATED: so many as can be of some PEOPLE who could SIT in a ROOM with their own chairs");
        OwnChair one = Check.made(ROOMS + P + Q);
        Check.due("both where they are", one.seated(0, 3), 3);
        Check.due("both elsewhere", one.seated(2, 3), 3);
        one.go(0, 1, -1);
        Check.due("wherever they are now", one.seated(0, 3), 3);
        Check.sentence("SEATED in a ROOM, of some PEOPLE (bits): who, as bits (0 when nobody can be).");
        OwnChair x = Check.made("room a door 9 floor 99;room b door 2 floor 3;" + P + Q + "person r strong 1 chair 1 wide 1 at a;"
            + "person s strong 1 chair 1 wide 1 at b;");
        Check.due("all in a", x.seated(0, 15), 15);
        Check.due("none of none", x.seated(0, 0), 0);
        for (int some = 0; some < 16; some++) {
            Check.due("in a of " + some, x.seated(0, some), some);
        }
        // s's chair stays in b and leaves 2 beside it, for p's or for r's; q's is too wide
        int[] due = {0, 1, 0, 1, 4, 1, 4, 1, 8, 9, 8, 9, 12, 9, 12, 9};
        for (int some = 0; some < 16; some++) {
            Check.due("in b of " + some, x.seated(1, some), due[some]);
        }
    }

    private static void imageOfEach() {
        Check.sentence("AN IMAGE: for each of the PEOPLE his ROOM, his chair's ROOM, 1 if it is broken, else 0, CLOCK, ACHE "
            + "(three bytes each, the higher first); last a byte: all ahead from 113 on, c = (5 c + it) mod 251.");
        OwnChair x = Check.made(ROOMS + P + Q + "breaks 100;");
        x.go(0, 1, 0);
        x.go(0, 2, -1);
        for (int i = 0; i < 70; i++) {
            x.stay(0, 999);
        }
        x.stay(1, 258);
        // p: clock 27 + 69930 = 69957 = 1 * 65536 + 17 * 256 + 69, ache 69930 = 1 * 65536 + 17 * 256 + 42
        int[] due = Check.sealed(2, 1, 1, 1, 17, 69, 1, 17, 42, 0, 0, 0, 0, 1, 2, 0, 0, 0, 0);
        Check.due("its length", x.image(), due.length);
        for (int k = 0; k < due.length; k++) {
            Check.due("octet(" + k + ")", x.octet(k), due[k]);
        }
    }

    private static void tapeInOrder() {
        Check.sentence("Twenty bytes come behind those on the tape, of each number the highest first: how many there are;");
        OwnChair x = new OwnChair();
        // "room abcdef door 4 f" and "loor 10;breaks 7;   "
        Check.due("twenty", x.feed(0x726f6f6d, 0x20616263, 0x64656620, 0x646f6f72, 0x20342066), 20);
        Check.due("forty", x.feed(0x6c6f6f72, 0x2031303b, 0x62726561, 0x6b732037, 0x3b202020), 40);
        Check.due("two STATEMENTS", x.town(), 2);
        for (int k = 0; k < 6; k++) {
            Check.due("letter " + k, x.letter(0, 0, k), k + 1);
        }
        Check.due("door, floor, breaks", x.room(0, 0) * 1000 + x.room(0, 1) * 10 + x.has(2), 4107);
        Check.due("the tape has gone", x.feed(0, 0, 0, 0, 0), 20);
    }

    private static void mended() {
        Check.sentence("One has a chair MENDED: true;");
        OwnChair x = Check.made(ROOMS + P + Q + "breaks 100;carpenter b;");
        x.go(0, 1, 0);
        Check.due("broken", x.person(0, 2) * 10 + x.has(4), 11);
        Check.due("mended", x.mend(0, 0), true);
        Check.due("whole, and he sits", x.person(0, 2) * 10 + x.has(4), 2);
        Check.due("30 later", x.person(0, 4), 37);
        Check.due("an ACT", x.has(9), 2);
        Check.due("it can be carried again", x.go(0, 0, 0), 44);
        Check.due("and breaks again", x.person(0, 2), 1);
    }
}
