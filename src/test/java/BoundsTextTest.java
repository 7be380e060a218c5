/** Terms I: each boundary that the document tells of a TOWN's text, at the last value that can be and the first that can't. */
public final class BoundsTextTest {
    private static final String A = "room a door 9 floor 99;";
    private static final String AB = A + "room b door 9 floor 99;";
    private static final String P = A + "person p strong 1 chair 1 wide 1 at a;";
    private static final String PQ = P + "person q strong 1 chair 1 wide 1 at a;";
    /** Every kind of STATEMENT and every sign and word of a SUM. */
    private static final String EVERY = "room hall door 3 floor 34 ; room shop door 5 floor 60 ;"
        + " way hall shop takes 17 ; person ann strong 45 chair 67 wide 2 at hall ; person bob strong 8 chair 9 wide 1 at shop ;"
        + " joined ann bob ; slow min ( 1 , takes ) + max ( weight , strong ) * ( wide - clock ) / own % 7 ;"
        + " stands if ( not [ all ] and 1 < 2 or 3 > 4 and 5 = 6 , 8 , 9 ) ; breaks 100 ; carpenter hall ;";

    public static void main(String[] args) {
        statements();
        rooms();
        ways();
        persons();
        homes();
        joinedOnes();
        oneEach();
        breaks();
        carpenters();
        names();
        unlikeNames();
        namesToldAhead();
        numbers();
        blanks();
        ownWords();
        noTownGoesOn();
        endsTooSoon();
        seventhLetters();
        fifthDigits();
        givenNames();
        askedNames();
        wrongNumbers();
        openAtOnce();
        tooMany();
        theFirst();
        Check.finish();
    }

    private static String letter(int i) {
        return String.valueOf((char) ('a' + i));
    }

    private static String rooms(int many) {
        StringBuilder text = new StringBuilder();
        for (int i = 0; i < many; i++) {
            text.append("room r").append(letter(i)).append(" door 9 floor 99;");
        }
        return text.toString();
    }

    private static String people(int many) {
        StringBuilder text = new StringBuilder();
        for (int i = 0; i < many; i++) {
            text.append("person p").append(letter(i)).append(" strong 1 chair 1 wide 9 at ra;");
        }
        return text.toString();
    }

    /** What has(what) tells of a town. */
    private static int has(String text, int what) {
        return Check.made(text).has(what);
    }

    private static void statements() {
        Check.sentence("{ STATEMENT ; } (80 at most)");
        Check.good("", 0);
        Check.good("breaks 1;", 1);
        Check.good("breaks 1;".repeat(79), 79);
        Check.good("breaks 1;".repeat(80), 80);
        Check.good("breaks 1;".repeat(80) + "\n ", 80);
        Check.faultAt(6, "breaks 1;".repeat(80) + "^breaks 1;");
        Check.faultAt(1, "breaks 1^");
        Check.faultAt(1, "breaks 1;^;");
    }

    private static void rooms() {
        Check.sentence("room NAME door N floor N (1 .. 9, 1 .. 99; 8 ROOMS)");
        for (int door = 1; door <= 9; door++) {
            Check.due("door " + door, Check.made("room a door " + door + " floor 1;").room(0, 0), door);
        }
        for (int floor = 1; floor <= 99; floor++) {
            Check.due("floor " + floor, Check.made("room a door 1 floor " + floor + ";").room(0, 1), floor);
        }
        Check.faultAt(4, "room a door ^0 floor 1;");
        Check.faultAt(4, "room a door ^10 floor 1;");
        Check.faultAt(4, "room a door ^9999 floor 1;");
        Check.faultAt(4, "room a door 1 floor ^0;");
        Check.faultAt(4, "room a door 1 floor ^100;");
        Check.faultAt(4, "room a door 1 floor ^9999;");
        Check.due("no ROOMS", has("", 0), 0);
        Check.due("7 ROOMS", has(rooms(7), 0), 7);
        Check.due("8 ROOMS", has(rooms(8), 0), 8);
        Check.faultAt(6, rooms(8) + "^room x door 9 floor 99;");
    }

    private static void ways() {
        Check.sentence("way NAME NAME takes N (two unlike ROOMS, both ways; 1 .. 60 minutes; the last one of these two counts)");
        for (int minutes = 1; minutes <= 60; minutes++) {
            OwnChair x = Check.made(AB + "way a b takes " + minutes + ";");
            Check.due("there in " + minutes, x.way(0, 1), minutes);
            Check.due("back in " + minutes, x.way(1, 0), minutes);
        }
        Check.faultAt(4, AB + "way a b takes ^0;");
        Check.faultAt(4, AB + "way a b takes ^61;");
        Check.faultAt(4, AB + "way a b takes ^9999;");
        Check.faultAt(3, AB + "way a ^a takes 1;");
        Check.faultAt(3, AB + "way b ^b takes 1;");
        OwnChair x = Check.made(AB + "room c door 1 floor 1;way a b takes 1;way b c takes 9;way b a takes 60;way a b takes 7;");
        Check.due("the last one there", x.way(0, 1), 7);
        Check.due("the last one back", x.way(1, 0), 7);
        Check.due("another two", x.way(1, 2), 9);
        Check.due("without one", x.way(0, 2), -1);
        OwnChair most = Check.made(AB + "way a b takes 60;way b a takes 1;");
        Check.due("a shorter one later", most.way(0, 1), 1);
    }

    private static void persons() {
        Check.sentence("person NAME strong N chair N wide N at NAME (1 .. 99, 1 .. 99, 1 .. 9;");
        for (int n = 1; n <= 99; n++) {
            OwnChair x = Check.made(A + "person p strong " + n + " chair " + (100 - n) + " wide " + (1 + n % 9) + " at a;");
            Check.due("strong " + n, x.person(0, 7), n);
            Check.due("chair " + (100 - n), x.person(0, 8), 100 - n);
            Check.due("wide", x.person(0, 9), 1 + n % 9);
        }
        Check.faultAt(4, A + "person p strong ^0 chair 1 wide 1 at a;");
        Check.faultAt(4, A + "person p strong ^100 chair 1 wide 1 at a;");
        Check.faultAt(4, A + "person p strong 1 chair ^0 wide 1 at a;");
        Check.faultAt(4, A + "person p strong 1 chair ^100 wide 1 at a;");
        Check.faultAt(4, A + "person p strong 1 chair 1 wide ^0 at a;");
        Check.faultAt(4, A + "person p strong 1 chair 1 wide ^10 at a;");
        Check.sentence("8 PEOPLE");
        Check.due("nobody", has(rooms(8), 1), 0);
        Check.due("7 PEOPLE", has(rooms(8) + people(7), 1), 7);
        Check.due("8 PEOPLE", has(rooms(8) + people(8), 1), 8);
        Check.faultAt(6, rooms(1) + people(8) + "^person x strong 1 chair 1 wide 1 at ra;");
        Check.faultAt(6, rooms(1) + people(8) + " ^person pa strong 0");
    }

    private static void homes() {
        Check.sentence("a ROOM, where he and his chair are at first, whose door it fits through, and whose floor has room");
        for (int door = 1; door <= 8; door++) {
            String room = "room a door " + door + " floor 99;person p strong 1 chair 1 wide ";
            OwnChair x = Check.made(room + door + " at a;");
            Check.due("he is there", x.person(0, 0), 0);
            Check.due("his chair is there", x.person(0, 1), 0);
            Check.faultAt(3, room + (door + 1) + " at ^a;");
        }
        String floor = "room a door 9 floor 5;room b door 9 floor 5;";
        Check.good(floor + "person p strong 1 chair 1 wide 5 at a;", 3);
        Check.faultAt(3, floor + "person p strong 1 chair 1 wide 6 at ^a;");
        String two = floor + "person p strong 1 chair 1 wide 2 at a;";
        Check.good(two + "person q strong 1 chair 1 wide 3 at a;", 4);
        Check.faultAt(3, two + "person q strong 1 chair 1 wide 4 at ^a;");
        Check.good(two + "person q strong 1 chair 1 wide 4 at b;", 4);
        String full = two + "person q strong 1 chair 1 wide 3 at a;";
        Check.faultAt(3, full + "person r strong 1 chair 1 wide 1 at ^a;");
        Check.good(full + "person r strong 1 chair 1 wide 5 at b;", 5);
        // a joined pair's door width is no matter of where they are at first
        String joined = "room a door 3 floor 9;person p strong 1 chair 1 wide 3 at a;person q strong 1 chair 1 wide 3 at a;";
        Check.good(joined + "joined p q;", 4);
        Check.due("wider for doors than the door", Check.made(joined + "joined p q;").person(0, 10), 6);
    }

    private static void joinedOnes() {
        Check.sentence("joined NAME NAME (two unlike PEOPLE, neither joined so far)");
        Check.good(PQ + "joined p q;", 4);
        Check.faultAt(3, PQ + "joined p ^p;");
        Check.faultAt(3, PQ + "joined q ^q;");
        Check.faultAt(3, PQ + "joined p q;joined ^p q;");
        Check.faultAt(3, PQ + "joined p q;joined ^q p;");
        String third = PQ + "person r strong 1 chair 1 wide 1 at a;joined p q;";
        Check.faultAt(3, third + "joined ^p r;");
        Check.faultAt(3, third + "joined r ^q;");
        String eight = rooms(1) + people(8);
        Check.good(eight + "joined pa ph;joined pg pb;joined pc pf;joined pe pd;", 13);
        Check.faultAt(3, eight + "joined pa ph;joined pg pb;joined pc pf;joined pe pd;joined ^pa pe;");
    }

    private static void oneEach() {
        Check.sentence("slow SUM, stands SUM (one each)");
        Check.good("slow 1;stands 1;", 2);
        Check.good("stands 1;slow 1;", 2);
        Check.faultAt(6, "slow 1;^slow 1;");
        Check.faultAt(6, "stands 1;^stands 1;");
        Check.faultAt(6, "slow 0;stands 0;^slow 0;");
        Check.faultAt(6, "slow 0;stands 0;breaks 0;^stands 0;");
    }

    private static void breaks() {
        Check.sentence("breaks N (0 .. 100; 0 without; the last one counts)");
        Check.due("without", has(A, 2), 0);
        for (int n = 0; n <= 100; n++) {
            Check.due("breaks " + n, has("breaks " + n + ";", 2), n);
        }
        Check.faultAt(4, "breaks ^101;");
        Check.faultAt(4, "breaks ^9999;");
        Check.due("the last one", has("breaks 100;breaks 0;breaks 7;", 2), 7);
        Check.due("the last one is 0", has("breaks 100;breaks 0;", 2), 0);
    }

    private static void carpenters() {
        Check.sentence("carpenter NAME (a ROOM; the last one counts)");
        Check.due("without", has(AB, 3), -1);
        Check.due("the first ROOM", has(AB + "carpenter a;", 3), 0);
        Check.due("the eighth ROOM", has(rooms(8) + "carpenter rh;", 3), 7);
        Check.due("the last one", has(AB + "carpenter a;carpenter b;", 3), 1);
        Check.due("the last one is the first", has(AB + "carpenter b;carpenter a;", 3), 0);
        Check.faultAt(3, P + "carpenter ^p;");
        Check.faultAt(3, P + "carpenter ^x;");
    }

    private static void names() {
        Check.sentence("NAMES: 1 to 6 letters");
        Check.good("room a door 1 floor 1;", 1);
        Check.good("room abcdef door 1 floor 1;", 1);
        Check.good("room zzzzzz door 1 floor 1;carpenter zzzzzz;", 2);
        Check.good(A + "person b strong 1 chair 1 wide 1 at a;person ghijkl strong 1 chair 1 wide 1 at a;", 3);
        Check.faultAt(1, "room ^door 1 floor 1;");
        Check.faultAt(1, "room abcdef^g door 1 floor 1;");
        Check.faultAt(1, A + "person abcdef^g strong 1");
        Check.faultAt(1, A + "carpenter aaaaaa^a;");
        Check.faultAt(1, "room ^1 door");
        Check.faultAt(1, "room a^1 door");
        Check.faultAt(1, "room ^A door");
        Check.faultAt(1, "room a^A door");
        Check.faultAt(1, "room ^_ door");
        // the bytes beside a and z are no letters
        Check.faultAt(1, "room ^` door");
        Check.faultAt(1, "room ^{ door");
        Check.faultAt(1, "room a^{ door");
        Check.faultAt(1, "room z^` door");
    }

    private static void unlikeNames() {
        Check.sentence("unlike ones (of all sorts)");
        Check.faultAt(2, A + "room ^a door 9 floor 99;");
        Check.faultAt(2, A + "person ^a strong 1");
        Check.faultAt(2, P + "person ^p strong 1");
        Check.faultAt(2, P + "room ^p door 1");
        Check.good(A + "room aa door 1 floor 1;room aaaaaa door 1 floor 1;person aaaaa strong 1 chair 1 wide 1 at a;", 4);
        Check.good("room ab door 1 floor 1;room ba door 1 floor 1;room b door 1 floor 1;", 3);
        Check.faultAt(2, rooms(7) + "room ^rg door 1");
        Check.faultAt(2, rooms(7) + people(7) + "room ^pg door 1");
        Check.faultAt(2, rooms(7) + people(7) + "person ^rg strong 1");
    }

    private static void namesToldAhead() {
        Check.sentence("told ahead of where they are asked");
        Check.faultAt(3, "way ^a b takes 1;" + AB);
        Check.faultAt(3, A + "way a ^b takes 1;room b door 9 floor 99;");
        Check.faultAt(3, "carpenter ^a;" + A);
        Check.faultAt(3, "person p strong 1 chair 1 wide 1 at ^a;" + A);
        Check.faultAt(3, P + "joined p ^q;person q strong 1 chair 1 wide 1 at a;");
        Check.faultAt(3, A + "person p strong 1 chair 1 wide 1 at ^p;");
        Check.good(A + "carpenter a;", 2);
    }

    private static void numbers() {
        Check.sentence("NUMBERS: 1 to 4 digits");
        Check.good("breaks 0;", 1);
        Check.good("breaks 0000;", 1);
        Check.due("four digits", has("breaks 0099;", 2), 99);
        Check.good("slow 9999;", 1);
        Check.faultAt(1, "breaks 0000^0;");
        Check.faultAt(1, "slow 9999^9;");
        Check.faultAt(1, "slow 1000^0;");
        Check.faultAt(1, "breaks ^;");
        Check.faultAt(1, "breaks ^-1;");
        Check.faultAt(1, "breaks ^+1;");
        // the bytes beside 0 and 9 are no digits
        Check.faultAt(1, "breaks ^/;");
        Check.faultAt(1, "breaks ^:;");
        Check.faultAt(1, "breaks 1^:;");
        Check.faultAt(1, "breaks 1^/;");
    }

    private static void blanks() {
        Check.sentence("Blanks (10, 32) are where one likes (words and numbers side by side need one)");
        int statements = EVERY.split(";").length;
        Check.good(EVERY, statements);
        Check.good(EVERY.replace(' ', '\n'), statements);
        Check.good(EVERY.replace(" ", "  \n ") + "\n", statements);
        Check.good(EVERY.replace(" ;", ";").replace("; ", ";").replaceAll(" ?([-+*/%(),<>=\\[\\]]) ?", "$1"), statements);
        int[] none = {0, 9, 11, 12, 13, 31, 33, 127, 128, 138, 160, 255};
        for (int octet : none) {
            String other = String.valueOf((char) octet);
            Check.faultAt(1, "^" + other + "breaks 1;");
            Check.faultAt(1, "breaks^" + other + "1;");
            Check.faultAt(1, "breaks 1^" + other + ";");
            Check.faultAt(1, "breaks 1;^" + other);
        }
        Check.faultAt(1, "breaks^1;");
        Check.faultAt(1, "room a door^1");
        Check.faultAt(1, "room a door 1^floor 1;");
        Check.faultAt(1, "room a^1");
        Check.faultAt(1, "^rooma door 1");
        Check.faultAt(1, "slow if(1<2^and all,1,2);");
        Check.faultAt(1, "slow takes^2;");
        // numbers that are the bytes of signs: what lacks its blank is not taken for the sign
        Check.faultAt(1, "breaks 59^breaks 1;");
        Check.faultAt(1, "slow 43^takes;");
        Check.faultAt(1, "slow 42^takes;");
        Check.faultAt(1, "slow (41^takes;");
        Check.faultAt(1, "slow min(44^takes);");
        Check.faultAt(1, "slow if(60^takes,1,2);");
        Check.faultAt(1, "slow if([1=93^takes,1,2);");
        Check.good("slow takes*2+if(1<2 and all,1,2);", 1);
    }

    private static void ownWords() {
        Check.sentence("OWN WORDS, which no NAME is: room, door, floor, way, takes, person, strong, chair, wide, at, joined, "
            + "slow, stands, breaks, weight, clock, own, if, or, and, not, all, min, max, and carpenter (nine letters)");
        String[] words = {"room", "door", "floor", "way", "takes", "person", "strong", "chair", "wide", "at", "joined", "slow",
            "stands", "breaks", "weight", "clock", "own", "if", "or", "and", "not", "all", "min", "max", "carpenter"};
        for (String word : words) {
            Check.faultAt(1, "room ^" + word + " door 1 floor 1;");
            Check.faultAt(1, A + "person ^" + word + " strong 1");
            Check.faultAt(1, "way ^" + word + " a takes 1;");
            Check.faultAt(1, A + "way a ^" + word + " takes 1;");
            Check.faultAt(1, "carpenter ^" + word + ";");
            Check.faultAt(1, PQ + "joined ^" + word + " q;");
            Check.faultAt(1, PQ + "joined p ^" + word + ";");
            Check.faultAt(1, A + "person p strong 1 chair 1 wide 1 at ^" + word + ";");
        }
        // one letter less or more is a NAME again
        for (String word : words) {
            String less = word.substring(0, word.length() - 1);
            if (less.length() <= 6) {
                Check.good("room " + less + " door 1 floor 1;", 1);
            }
            if (word.length() < 6) {
                Check.good("room " + word + "x door 1 floor 1;", 1);
            }
        }
        Check.faultAt(1, "room carpen^te door 1 floor 1;");
        Check.faultAt(1, "room carpen^terr door 1 floor 1;");
        Check.good("room carpen door 1 floor 1;", 1);
    }

    private static void noTownGoesOn() {
        Check.sentence("1 the first byte with which no TOWN goes on (words and numbers whole, at their first byte;");
        Check.faultAt(1, "^hall");
        Check.faultAt(1, "^roo a");
        Check.faultAt(1, "^door 1");
        Check.faultAt(1, "^12");
        Check.faultAt(1, "^(");
        Check.faultAt(1, "room a ^wide 1");
        Check.faultAt(1, "room a ^b door");
        Check.faultAt(1, "room a ^7 door");
        Check.faultAt(1, "room a door ^wide");
        Check.faultAt(1, "room a door 1 ^2");
        Check.faultAt(1, "room a door 1 floor 1 ^,");
        Check.faultAt(1, AB + "way a b ^door 1;");
        Check.faultAt(1, AB + "way a ^, b");
        Check.faultAt(1, A + "person p strong 1 ^wide 1");
        Check.faultAt(1, A + "person p strong 1 chair 1 ^at a");
        Check.faultAt(1, A + "person p strong 1 chair 1 wide 1 ^a");
        Check.faultAt(1, PQ + "joined p q ^p;");
        Check.faultAt(1, "breaks ^all;");
        Check.faultAt(1, A + "carpenter a ^a;");
        statementsThatStop();
        sumsThatStop();
    }

    /** Each STATEMENT cut at each of its words, with the ; that would end it. */
    private static void statementsThatStop() {
        String[] statements = {"room c door 1 floor 1", "way a b takes 1", "person r strong 1 chair 1 wide 1 at a", "joined p q",
            "slow 1", "stands 1", "breaks 1", "carpenter a"};
        String ahead = AB + "person p strong 1 chair 1 wide 1 at a;person q strong 1 chair 1 wide 1 at a;";
        for (String statement : statements) {
            Check.good(ahead + statement + ";", 5);
            for (int n = statement.indexOf(' '); n >= 0; n = statement.indexOf(' ', n + 1)) {
                Check.faultAt(1, ahead + statement.substring(0, n) + "^;");
                Check.faultAt(1, ahead + statement.substring(0, n) + " ^;breaks 1;");
            }
            Check.faultAt(1, ahead + statement + " ^,");
            Check.faultAt(1, ahead + statement + "; ^;");
        }
    }

    private static void sumsThatStop() {
        Check.faultAt(1, "slow ^;");
        Check.faultAt(1, "slow ^+1;");
        String[] signs = {"+", "-", "*", "/", "%"};
        for (String sign : signs) {
            Check.faultAt(1, "slow 1" + sign + "^;");
            Check.faultAt(1, "slow 1" + sign + "^" + sign + "1;");
        }
        Check.faultAt(1, "slow 1 ^2;");
        Check.faultAt(1, "slow 1^=1;");
        Check.faultAt(1, "slow ^all;");
        Check.faultAt(1, "slow ^hall;");
        Check.faultAt(1, "slow ^door;");
        Check.faultAt(1, "slow (1^;");
        Check.faultAt(1, "slow 1^);");
        Check.faultAt(1, "slow (^);");
        Check.faultAt(1, "slow ^[1];");
        Check.faultAt(1, "slow min^;");
        Check.faultAt(1, "slow min ^1,2);");
        Check.faultAt(1, "slow min(1^);");
        Check.faultAt(1, "slow max(1,2^,3);");
        Check.faultAt(1, "slow min(1,2^;");
        Check.faultAt(1, "slow if^[all],1,2);");
        Check.faultAt(1, "slow if(1^,1,2);");
        Check.faultAt(1, "slow if(1<2^<3,1,2);");
        Check.faultAt(1, "slow if(all^=all,1,2);");
        Check.faultAt(1, "slow if(all^);");
        Check.faultAt(1, "slow if(all,1^);");
        Check.faultAt(1, "slow if(all,1,2^,3);");
        Check.faultAt(1, "slow if([all^,1,2);");
        Check.faultAt(1, "slow if([all^),1,2);");
        Check.faultAt(1, "slow if(not^,1,2);");
        Check.faultAt(1, "slow if(^or all,1,2);");
        Check.faultAt(1, "slow if(all or^,1,2);");
        Check.faultAt(1, "slow if(all and^,1,2);");
        Check.faultAt(1, "slow if(all or^;");
        Check.faultAt(1, "slow if(all and^;");
        Check.faultAt(1, "slow if(not^;");
        Check.faultAt(1, "slow if(1<^;");
        Check.faultAt(1, "slow if(^;");
        Check.faultAt(1, "slow if(all,^;");
        Check.faultAt(1, "slow if(all,1,^;");
        Check.faultAt(1, "slow min(^;");
        Check.faultAt(1, "slow min(1,^;");
        Check.faultAt(1, "slow if(all and ^or all,1,2);");
        Check.faultAt(1, "slow if(all ^not all,1,2);");
        Check.faultAt(1, "slow if([1^]=1,1,2);");
        Check.faultAt(1, "slow if((^all),1,2);");
    }

    private static void endsTooSoon() {
        Check.sentence("at the text's length, if it ends too soon");
        for (int n = 0; n <= EVERY.length(); n++) {
            boolean wholeToken = n == 0 || n == EVERY.length() || EVERY.charAt(n) == ' ' || EVERY.charAt(n - 1) == ' ';
            if (!wholeToken) {
                continue;
            }
            String part = EVERY.substring(0, n);
            if (part.trim().isEmpty() || part.trim().endsWith(";")) {
                Check.good(part, part.trim().isEmpty() ? 0 : part.split(";").length - (part.endsWith(" ") ? 1 : 0));
            } else {
                Check.fault(part, 1, n);
            }
        }
        Check.fault("room" + " ".repeat(1596), 1, 1600);
        Check.fault(" ".repeat(1599) + "room", 1, 1599);
    }

    private static void seventhLetters() {
        Check.sentence("a 7th letter of what is no OWN WORD, a 5th digit at itself, whatever may stand there");
        Check.good(A + "carpenter a;", 2);
        String[] places = {"", "room ", "room a ", "room a door ", "room a door 1 ", AB + "way a b takes ", "slow ", "slow 1 ",
            "slow 1+", "slow (", "slow if(", "slow if(not ", "breaks ", "breaks 1 ", A + "carpenter a ", P + "joined p "};
        for (String place : places) {
            Check.faultAt(1, place + "abcdef^g");
            Check.faultAt(1, place + "abcdef^ghijklmnop;");
            Check.faultAt(1, place + "person^s");
            Check.faultAt(1, place + "carpen^ters");
            Check.faultAt(1, place + "carpen^te");
            Check.faultAt(1, place + "abcdef^ghi");
            Check.faultAt(1, place + "carpen^tes");
            Check.faultAt(1, place + "xarpen^ter");
            Check.faultAt(1, place + "carpem^ter");
        }
    }

    private static void fifthDigits() {
        Check.sentence("a 7th letter of what is no OWN WORD, a 5th digit at itself, whatever may stand there");
        String[] places = {"", "room ", "room a ", "room a door ", "room a door 1 ", AB + "way a b takes ", "slow ", "slow 1 ",
            "slow 1+", "slow (", "slow if(", "slow if(not ", "breaks ", "breaks 1 ", A + "carpenter ", P + "joined p "};
        for (String place : places) {
            Check.faultAt(1, place + "1234^5");
            Check.faultAt(1, place + "0000^1234567890;");
        }
    }

    private static void givenNames() {
        Check.sentence("2 a NAME to be given that is there already, at its first byte");
        Check.faultAt(2, A + "room ^a");
        Check.faultAt(2, A + "room \n^a door 0");
        Check.faultAt(2, P + "room ^p!");
        Check.faultAt(2, P + "person ^a x");
        Check.faultAt(2, "room abcdef door 1 floor 1;room ^abcdef door 1 floor 1;");
        Check.good("room abcdef door 1 floor 1;room abcdeg door 1 floor 1;room bbcdef door 1 floor 1;", 3);
    }

    private static void askedNames() {
        Check.sentence("3 a NAME that is none of what is asked, or one that can't be (the same one, one joined already, "
            + "a ROOM whose door or floor is too small), at its first byte");
        Check.faultAt(3, P + "way ^p a takes 1;");
        Check.faultAt(3, P + "way a ^p takes 1;");
        Check.faultAt(3, P + "way a ^x takes 1;");
        Check.faultAt(3, P + "joined ^a p;");
        Check.faultAt(3, P + "joined p ^a;");
        Check.faultAt(3, P + "carpenter ^p;");
        Check.faultAt(3, P + "person q strong 1 chair 1 wide 1 at ^p;");
        Check.faultAt(3, P + "person q strong 1 chair 1 wide 1 at ^q;");
        Check.faultAt(3, A + "way a   ^a takes 0;");
        Check.faultAt(3, PQ + "joined p q;joined ^p p;");
        Check.faultAt(3, "room a door 1 floor 9;person p strong 1 chair 1 wide 2 at ^a");
        Check.faultAt(3, "room a door 9 floor 1;person p strong 1 chair 1 wide 2 at ^a!");
    }

    private static void wrongNumbers() {
        Check.sentence("4 a NUMBER that can't be, at its first byte");
        Check.faultAt(4, "room a door ^0");
        Check.faultAt(4, "room a door ^0010");
        Check.faultAt(4, "room a door \n ^10!");
        Check.faultAt(4, "breaks ^101 1");
        Check.faultAt(4, "breaks ^0101;");
        Check.good("breaks 0100;", 1);
        Check.good("slow 0;stands 9999;", 2);
    }

    private static void openAtOnce() {
        Check.sentence("5 the 8th ( [ not that is open at once (not until its FACT ends), at it");
        Check.good("slow (((((((1)))))));", 1);
        Check.faultAt(5, "slow (((((((^(1))))))));");
        Check.faultAt(5, "stands (((((((^(");
        Check.good("slow min(min(min(min(min(min(min(1,2),2),2),2),2),2),2);", 1);
        Check.faultAt(5, "slow min(min(min(min(min(min(min(min^(1,2),2),2),2),2),2),2),2);");
        Check.faultAt(5, "slow max(1,max(1,max(1,max(1,max(1,max(1,max(1,max^(");
        Check.good("slow if([[[[[[all]]]]]],1,2);", 1);
        Check.faultAt(5, "slow if([[[[[[^[all]]]]]]],1,2);");
        Check.good("slow if(not not not not not not all,1,2);", 1);
        Check.faultAt(5, "slow if(not not not not not not ^not all,1,2);");
        Check.good("slow if(not [not [not (1)=1]],1,2);", 1);
        Check.faultAt(5, "slow if(not [not [not (^(1))=1]],1,2);");
        Check.faultAt(5, "slow if(not [not [not [^not all]]],1,2);");
        Check.faultAt(5, "slow if(not [not [not [min^(");
        Check.good("slow if(all,((((((1)))))),((((((1)))))));", 1);
        Check.faultAt(5, "slow if(all,((((((^(1))))))),1);");
        Check.faultAt(5, "slow if(all,1,((((((^(1))))))));");
        Check.faultAt(5, "slow if(1<((((((^(1))))))),1,1);");
        Check.faultAt(5, "slow if(((((((^(1)))))))<1,1,1);");
        Check.faultAt(5, "slow min(1,((((((^(1))))))));");
        Check.faultAt(5, "slow min(((((((^(1))))))),1);");
        // once closed they are open no more
        Check.good("slow (((((((1)))))))+(((((((1)))))));", 1);
        Check.good("slow min(((((((1)))))),((((((1)))))));", 1);
        Check.good("slow if([[[[[[all]]]]]]and[[[[[[all]]]]]]or[[[[[[all]]]]]],((((((1)))))),((((((1)))))));", 1);
        // a not ends with its FACT: at and, at or, at a comma, and where a comparison ends
        Check.good("slow if(not not not not not not all and not not not not not not all,1,2);", 1);
        Check.good("slow if(not not not not not not all or not not not not not not 1=2,((((((1)))))),2);", 1);
        Check.good("slow if(not not not not not(1)=(1)and((((((1))))))=1,1,2);", 1);
        Check.faultAt(5, "slow if(not not not not not (1)=(^(1)),1,2);");
        Check.faultAt(5, "slow if(not not not not not not 1=^(1),1,2);");
        Check.faultAt(5, "slow if(not not not not not [^(1)=1],1,2);");
        Check.good("slow if(not not not not not [1=1],1,2);", 1);
        // one that may not stand there at all is no 8th one
        Check.faultAt(1, "slow (((((((1^(");
        Check.faultAt(1, "slow (((((((^[");
        Check.faultAt(1, "slow (((((((^not");
    }

    private static void tooMany() {
        Check.sentence("6 one too many of a kind of STATEMENT (a second slow, stands, too), or the 81st STATEMENT "
            + "(whatever it is), at its first byte");
        Check.faultAt(6, rooms(8) + " \n^room");
        Check.faultAt(6, rooms(8) + "^room ra door 0");
        Check.faultAt(6, rooms(1) + people(8) + "^person");
        Check.faultAt(6, "slow 1; ^slow !");
        Check.faultAt(6, "stands 1;\n^stands");
        String eighty = "breaks 1;".repeat(80);
        String[] whatever = {"breaks 1;", "room a door 1 floor 1;", "slow 1;", "hall", "5", ";", "!", "(", "abcdefgh", "12345"};
        for (String one : whatever) {
            Check.faultAt(6, eighty + "^" + one);
            Check.faultAt(6, eighty + "  \n^" + one);
        }
        // kinds of which there may be many: 79 ways, 79 carpenters
        Check.good(AB + "way a b takes 1;".repeat(78), 80);
        Check.good(A + "carpenter a;".repeat(79), 80);
        Check.faultAt(6, A + "carpenter a;".repeat(79) + "^carpenter a;");
    }

    private static void theFirst() {
        Check.sentence("FAULTS, the first along the text");
        Check.faultAt(4, "room a door ^0 floor 0;!");
        Check.faultAt(3, "way ^x x takes 0;");
        Check.faultAt(2, A + "room ^a door 0;");
        Check.faultAt(1, "breaks ^;breaks 101;");
        Check.faultAt(4, "breaks ^101abcdefgh");
        Check.faultAt(6, "slow 1;^slow ((((((((");
        Check.faultAt(5, "slow (((((((^(!");
        Check.faultAt(1, "slow 1^!;slow 2;");
    }
}
