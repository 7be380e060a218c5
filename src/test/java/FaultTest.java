/** Promises 4 and 5: a TOWN's text, each FAULT at its place, and that all stays with one. */
public final class FaultTest {
    private static final String A = "room a door 3 floor 5;";
    private static final String AB = A + "room b door 3 floor 5;";
    private static final String P = A + "person p strong 5 chair 5 wide 2 at a;";
    private static final String PQ = P + "person q strong 5 chair 5 wide 2 at a;";

    public static void main(String[] args) {
        goodTexts();
        noTownGoesOn();
        longWordsAndNumbers();
        ownWords();
        givenNames();
        askedNames();
        numbers();
        openOnes();
        tooMany();
        theFirstAlongTheText();
        goodOnesBehind();
        fullTexts();
        allStays();
        allIsAsAtFirst();
        Check.finish();
    }

    private static String times(String text, int n) {
        return text.repeat(n);
    }

    private static void goodTexts() {
        Check.good("", 0);
        Check.good("\n  \n", 0);
        Check.good(A, 1);
        Check.good("  room\na\n\n door\n3 floor 5\n;\n", 1);
        Check.good("room a door 0003 floor 0099;", 1);
        Check.good("room zzzzzz door 9 floor 99;room z door 1 floor 1;", 2);
        Check.good(AB + "way a b takes 1;way b a takes 60;", 4);
        Check.good(PQ + "joined q p;", 4);
        Check.good("slow 1;stands 9999;breaks 0;breaks 100;breaks 7;", 5);
        Check.good(AB + "carpenter a;carpenter b;", 4);
        Check.good("room rooms door 1 floor 1;room roo door 1 floor 1;", 2);
        Check.good("slow(1);", 1);
        Check.good("slow min(1,2)*max(takes,own)/if(not all or[1<2],weight,strong)%wide-clock+((3));", 1);
        Check.good("slow if(1=1 and 2=2 or 3>4,1,2);", 1);
        Check.good("slow if(1=1 and not[all]or not not all,1,2);", 1);
        Check.good(A + "person p strong 99 chair 99 wide 3 at a;", 2);
    }

    private static void noTownGoesOn() {
        Check.fault(";", 1, 0);
        Check.fault("!", 1, 0);
        Check.fault(" \n\t", 1, 2);
        Check.fault("\r" + A, 1, 0);
        Check.fault("hall", 1, 0);
        Check.fault("5", 1, 0);
        Check.fault("rooms a", 1, 0);
        Check.fault("Room a", 1, 0);
        Check.fault("room A", 1, 5);
        Check.fault("room", 1, 4);
        Check.fault("room  \n", 1, 7);
        Check.fault("room ;", 1, 5);
        Check.fault("room a", 1, 6);
        Check.fault("room a floor 3", 1, 7);
        Check.fault("room a door", 1, 11);
        Check.fault("room a door x", 1, 12);
        Check.fault("room a door 3 floor 5", 1, 21);
        Check.fault("room a door 3 floor 5 ", 1, 22);
        Check.fault("room a door 3 floor 5,", 1, 21);
        Check.fault("room a door 3 floor 5;;", 1, 22);
        Check.fault("room a door -3", 1, 12);
        Check.fault("rooma door", 1, 0);
        Check.fault("room a door3", 1, 11);
        Check.fault("room a door 3floor", 1, 13);
        Check.fault("room a1", 1, 6);
        Check.fault("room1", 1, 4);
        Check.fault("slow if(1=1and 2=2,1,2);", 1, 11);
        Check.fault(AB + "way a b", 1, 51);
        Check.fault(AB + "way a,b", 1, 49);
        Check.fault(AB + "way a b take 5", 1, 52);
        Check.fault(P + "joined p", 1, 68);
        Check.fault("breaks", 1, 6);
        Check.fault("breaks x", 1, 7);
        Check.fault("breaks 5 6", 1, 9);
        Check.fault("carpenter", 1, 9);
        Check.fault("carpenter 5", 1, 10);
        Check.fault("slow", 1, 4);
        Check.fault("slow ;", 1, 5);
        Check.fault("slow -1", 1, 5);
        Check.fault("slow 1+", 1, 7);
        Check.fault("slow 1+;", 1, 7);
        Check.fault("slow 1 2", 1, 7);
        Check.fault("slow hall", 1, 5);
        Check.fault("slow (1;", 1, 7);
        Check.fault("slow 1)", 1, 6);
        Check.fault("slow min 1", 1, 9);
        Check.fault("slow min(1)", 1, 10);
        Check.fault("slow min(1,2,3)", 1, 12);
        Check.fault("slow if(1,2,3)", 1, 9);
        Check.fault("slow if(1<2,3)", 1, 13);
        Check.fault("slow if(1<2<3,3,4)", 1, 11);
        Check.fault("slow if(all<2,3,4)", 1, 11);
        Check.fault("slow if([1],3,4)", 1, 10);
        Check.fault("slow if([all),3,4)", 1, 12);
        Check.fault("slow if((1<2),3,4)", 1, 10);
        Check.fault("slow all", 1, 5);
        Check.fault("slow not 1", 1, 5);
        Check.fault("slow [1]", 1, 5);
        Check.fault("slow 1<2", 1, 6);
        Check.fault("slow door", 1, 5);
        Check.fault("slow if(all and,1,2)", 1, 15);
        Check.fault("slow if(all or or all,1,2)", 1, 15);
        Check.fault("slow if(not,1,2)", 1, 11);
        Check.fault("\u00e9", 1, 0);
        Check.fault(A + "\u0000", 1, 22);
    }

    private static void longWordsAndNumbers() {
        Check.fault("room sevenab", 1, 11);
        Check.fault("room abcdefghijklmnopqrstuvwxyz", 1, 11);
        Check.fault("abcdefg", 1, 6);
        Check.fault("room carpentes door", 1, 11);
        Check.fault("carpenters", 1, 6);
        Check.fault("carpente x", 1, 6);
        Check.fault("room a door 12345", 1, 16);
        Check.fault("room a door 00003", 1, 16);
        Check.fault("12345", 1, 4);
        Check.fault("room a 123456", 1, 11);
        Check.fault("slow 10000", 1, 9);
        Check.fault("slow 1 abcdefg", 1, 13);
        // the byte that wants a blank ahead of it comes earlier than the seventh letter
        Check.fault("room a door 3abcdefgh", 1, 13);
        Check.fault("room a door3 floor", 1, 11);
    }

    private static void ownWords() {
        String[] words = {"room", "door", "floor", "way", "takes", "person", "strong", "chair", "wide", "at", "joined",
            "slow", "stands", "breaks", "weight", "clock", "own", "if", "or", "and", "not", "all", "min", "max",
            "carpenter"};
        for (String word : words) {
            Check.fault("room " + word + " door 1 floor 1;", 1, 5);
            Check.fault(A + "person " + word + " strong", 1, 29);
            Check.fault("way " + word, 1, 4);
            Check.fault("carpenter " + word, 1, 10);
            Check.fault(P + "joined p " + word, 1, 69);
        }
        for (String word : words) {
            if (!word.equals("carpenter")) {
                Check.good("room " + word.substring(1) + "q door 1 floor 1;", 1);
            }
        }
    }

    private static void givenNames() {
        Check.fault(A + "room a", 2, 27);
        Check.fault(A + "room a door 99", 2, 27);
        Check.fault(A + "person a", 2, 29);
        Check.fault(P + "person p", 2, 67);
        Check.fault(P + "room p", 2, 65);
        Check.fault(P + "room   p", 2, 67);
        Check.good(A + "room aa door 1 floor 1;room aaa door 1 floor 1;", 3);
    }

    private static void askedNames() {
        Check.fault("way a", 3, 4);
        Check.fault(A + "way a b", 3, 28);
        Check.fault(A + "way a a", 3, 28);
        Check.fault(P + "way a p", 3, 66);
        Check.fault(P + "way p a", 3, 64);
        Check.fault("carpenter x", 3, 10);
        Check.fault(P + "carpenter p", 3, 70);
        Check.fault(P + "joined a p", 3, 67);
        Check.fault(P + "joined p a", 3, 69);
        Check.fault(P + "joined p p", 3, 69);
        Check.fault(P + "joined p x", 3, 69);
        Check.fault(P + "person q strong 1 chair 1 wide 1 at p", 3, 96);
        Check.fault(P + "person q strong 1 chair 1 wide 1 at q", 3, 96);
        Check.fault(P + "person q strong 1 chair 1 wide 4 at a", 3, 96);
        Check.good(P + "person q strong 1 chair 1 wide 3 at a;", 3);
        Check.fault(PQ + "person r strong 1 chair 1 wide 2 at a", 3, 134);
        Check.good(PQ + "person r strong 1 chair 1 wide 1 at a;", 4);
        Check.good(PQ + "room b door 3 floor 1;person r strong 1 chair 1 wide 1 at b;", 5);
        String four = "room a door 9 floor 99;person p strong 1 chair 1 wide 1 at a;person q strong 1 chair 1 wide 1 at a;"
            + "person r strong 1 chair 1 wide 1 at a;person s strong 1 chair 1 wide 1 at a;joined q r;";
        Check.fault(four + "joined p q", 3, four.length() + 9);
        Check.fault(four + "joined r s", 3, four.length() + 7);
        Check.fault(four + "joined q r", 3, four.length() + 7);
        Check.good(four + "joined s p;", 7);
    }

    private static void numbers() {
        Check.fault("room a door 0", 4, 12);
        Check.fault("room a door 10", 4, 12);
        Check.fault("room a door 9 floor 0", 4, 20);
        Check.fault("room a door 9 floor 100", 4, 20);
        Check.fault("room a door 9 floor 9999", 4, 20);
        Check.fault(AB + "way a b takes 0", 4, 58);
        Check.fault(AB + "way a b takes 61", 4, 58);
        Check.fault("person p strong 0", 4, 16);
        Check.fault("person p strong 100", 4, 16);
        Check.fault("person p strong 1 chair 0", 4, 24);
        Check.fault("person p strong 1 chair 100", 4, 24);
        Check.fault("person p strong 1 chair 1 wide 0", 4, 31);
        Check.fault("person p strong 1 chair 1 wide 10", 4, 31);
        Check.fault("breaks 101", 4, 7);
        Check.fault("breaks 9999", 4, 7);
        Check.good("room a door 9 floor 99;person p strong 99 chair 99 wide 9 at a;", 2);
    }

    private static void openOnes() {
        Check.good("slow " + times("(", 7) + "1" + times(")", 7) + ";", 1);
        Check.fault("slow " + times("(", 8) + "1", 5, 12);
        Check.fault("slow " + times("(", 7) + "1" + times(")", 6) + "+(1)", 1, 23);
        Check.good("slow " + times("(", 7) + "1)+(1" + times(")", 7) + ";", 1);
        Check.good("slow " + times("(", 7) + "1" + times(")", 7) + "*" + times("(", 7) + "1" + times(")", 7) + ";", 1);
        Check.good("slow if(" + times("not ", 6) + "all,1,2);", 1);
        Check.fault("slow if(" + times("not ", 7) + "all,1,2);", 5, 32);
        Check.good("slow if(" + times("[", 6) + "all" + times("]", 6) + ",1,2);", 1);
        Check.fault("slow if(" + times("[", 7) + "all", 5, 14);
        // a not is open until its FACT ends
        Check.good("slow if(not not not not not not all and not not not not not not all,1,2);", 1);
        Check.good("slow if(not [not [not [all]]],1,2);", 1);
        Check.fault("slow if(not [not [not [not all]]],1,2);", 5, 23);
        Check.fault("slow if(not [not [not (1)=1]],1,(" + times("(", 6), 5, 38);
        Check.good("slow if(not [not [not (1)=1]],1,2);", 1);
        Check.good("slow min(max(min(max(min(max(min(1,2),2),2),2),2),2),2);", 1);
        Check.fault("slow min(max(min(max(min(max(min(max(1,2)", 5, 36);
        // the brackets of min, max and if are open in each of their parts
        Check.good("slow min(1,((((((1))))))+1);", 1);
        Check.fault("slow min(1,(((((((1)))))))+1);", 5, 17);
        Check.good("slow if(all,((((((1)))))),((((((1)))))));", 1);
        Check.fault("slow if(all,(((((((1))))))),1);", 5, 18);
        Check.fault("slow if(all,1,(((((((1))))))));", 5, 20);
        Check.fault("slow if(1<(((((((1))))))),1,1);", 5, 16);
        Check.fault("slow if((((((((1)))))))<1,1,1);", 5, 14);
        Check.fault("stands ((((((((1", 5, 14);
        Check.fault("slow 1;stands if(not if(not [not (1", 1, 35);
        Check.fault("slow 1;stands if(not if(not [not ((1", 5, 34);
        Check.fault("slow if(not if(all,1,if(not [[(1)=if(all", 5, 30);
    }

    private static void tooMany() {
        StringBuilder eight = new StringBuilder();
        for (int i = 0; i < 8; i++) {
            eight.append("room r").append((char) ('a' + i)).append(" door 9 floor 99;");
        }
        Check.good(eight.toString(), 8);
        Check.fault(eight + " room", 6, eight.length() + 1);
        Check.fault(eight + "room ra", 6, eight.length());
        for (int i = 0; i < 8; i++) {
            eight.append("person p").append((char) ('a' + i)).append(" strong 1 chair 1 wide 9 at ra;");
        }
        Check.good(eight.toString(), 16);
        Check.fault(eight + "\nperson", 6, eight.length() + 1);
        Check.fault("slow 1;slow", 6, 7);
        Check.fault("slow 1; slow 2;", 6, 8);
        Check.fault("stands 1;slow 1;stands 2;", 6, 16);
        String eighty = times("breaks 1;", 80);
        Check.good(eighty, 80);
        Check.good(eighty + " \n ", 80);
        Check.fault(eighty + "breaks 1;", 6, 720);
        Check.fault(eighty + "  hall", 6, 722);
        Check.fault(eighty + ";", 6, 720);
        Check.fault(eighty + "room a door 1 floor 1;", 6, 720);
        Check.fault(times("breaks 1;", 79) + "breaks 101;breaks 1;", 4, 718);
    }

    private static void theFirstAlongTheText() {
        Check.fault("room a door 10 floor 100;!", 4, 12);
        Check.fault("way x y takes 99", 3, 4);
        Check.fault("slow 1+;room a door 0", 1, 7);
        Check.fault(A + "room a door 0", 2, 27);
        Check.fault("breaks 101x", 4, 7);
        Check.fault("breaks 101 abcdefgh", 4, 7);
        Check.fault("carpenter x abcdefgh", 3, 10);
        Check.fault("room a door 3 floor 5 abcdefgh", 1, 28);
        Check.fault(A + "person p strong 5 chair 5 wide 4 at a 12345", 3, 58);
    }

    /** A fault is one, though all that follows be good. */
    private static void goodOnesBehind() {
        String[] sums = {"1*", "1/", "1%", "1+", "1-", "(1", "min(1,2", "if(all,1,2", "if(all or,1,2)", "if(all and,1,2)",
            "if(not,1,2)", "if([all,1,2)", "if(1<,1,2)", "if(1,1,2)", "if(,1,2)", "if(all,,2)", "if(all,1,)", "min(,1)",
            "max(1,)", "()", "if(or all,1,2)", "1 1", "min", "room"};
        for (String sum : sums) {
            OwnChair x = new OwnChair();
            Check.due("slow " + sum, Check.town(x, "slow " + sum + ";breaks 5;"), -1);
            Check.due("slow " + sum + " fault(0)", x.fault(0), 1);
        }
        String[] statements = {"room c door 0 floor 5", "room c door 5 floor 0", "room a door 5 floor 5", "room c door 5",
            "way x a takes 5", "way a x takes 5", "way a a takes 5", "way a b takes 0", "way a b",
            "person p strong 1 chair 1 wide 1 at a", "person r strong 0 chair 1 wide 1 at a",
            "person r strong 1 chair 0 wide 1 at a", "person r strong 1 chair 1 wide 0 at a",
            "person r strong 1 chair 1 wide 1 at x", "person r strong 1 chair 1 wide 1 in a",
            "person r strong 1 chair 1 wide 1", "person r strong 1 chair 1 wide 9 at a", "joined p x", "joined x p",
            "joined p p", "joined p", "breaks 101", "breaks", "carpenter x", "carpenter p", "carpenter", "stands", "slow 1"};
        for (String statement : statements) {
            OwnChair x = new OwnChair();
            Check.due(statement, Check.town(x, PQ + "room b door 3 floor 5;slow 1;" + statement + ";breaks 5;"), -1);
            Check.due(statement + " fault(0)", x.fault(0) > 0, true);
            Check.due(statement + " has(0)", x.has(0), 0);
        }
    }

    /** Texts that fill the tape to its last byte. */
    private static void fullTexts() {
        Check.good("slow " + times("1+", 796) + "12;", 1);
        Check.good("slow " + times("1*", 796) + "12;", 1);
        Check.fault("slow " + times("1+", 795) + "12345", 1, 1599);
        Check.fault("slow " + times("1+", 796) + "123", 1, 1600);
        Check.fault("slow " + times("1+", 797) + "1", 1, 1600);
        Check.fault("slow " + times("1+", 795) + "takes", 1, 1600);
        Check.fault(times(" ", 1599) + "a", 1, 1599);
        Check.fault(times(" ", 1593) + "sevenab", 1, 1599);
        Check.fault(times(" ", 1595) + "room\n", 1, 1600);
        Check.fault("slow 1;" + times("\n", 1589) + "slow", 6, 1596);
        Check.good(times(" ", 1600), 0);
        Check.good(times(" \n", 796) + "slow 10;", 1);
    }

    private static void allStays() {
        OwnChair x = Check.made(PQ + "room b door 3 floor 5;way a b takes 5;carpenter b;breaks 0;stands 7;");
        x.go(0, 1, 0);
        x.stay(0, 5);
        Check.due("errand", Check.errand(x, 1, 1, 0), 5);
        Check.due("standing", Check.standing(x, 0, 1), 2);
        Check.due("town", Check.town(x, A + "room b door 10"), -1);
        Check.due("fault(0)", x.fault(0), 4);
        Check.due("fault(1)", x.fault(1), 34);
        Check.due("fault(2)", x.fault(2), -1);
        Check.due("fault(-1)", x.fault(-1), -1);
        Check.due("fault(least)", x.fault(Integer.MIN_VALUE), -1);
        Check.due("status(1)", x.status(1), 1);
        Check.due("has(0)", x.has(0), 2);
        Check.due("has(1)", x.has(1), 2);
        Check.due("has(3)", x.has(3), 1);
        Check.due("has(6)", x.has(6), 10);
        Check.due("has(8)", x.has(8), 1);
        Check.due("has(9)", x.has(9), 2);
        Check.due("room(0, 0)", x.room(0, 0), 3);
        Check.due("way(1, 0)", x.way(1, 0), 5);
        Check.due("along(0)", x.along(0), 0);
        Check.due("where(0, 0)", x.where(0, 0) >= 0, true);
        Check.due("the tape is gone", x.end(1), false);
        Check.due("the sum stays", x.stay(1, 9), 0);
        x.go(1, 1, -1);
        Check.due("the sum of stands stays", x.stay(1, 9), 7);
    }

    private static void allIsAsAtFirst() {
        String text = PQ + "room b door 3 floor 5;way a b takes 5;breaks 100;carpenter b;joined p q;";
        OwnChair x = Check.made(text);
        x.seed(77);
        x.go(1, 1, -1);
        x.stay(1, 5);
        Check.errand(x, 1, 0, 0);
        Check.standing(x, 0, 1);
        int image = x.image();
        Check.due("town with a fault", Check.town(x, "!"), -1);
        Check.due("the same town again", Check.town(x, text), 8);
        Check.due("fault(0) is gone", x.fault(0), 0);
        Check.due("fault(1) is gone", x.fault(1), -1);
        Check.due("person(1, 0)", x.person(1, 0), 0);
        Check.due("person(1, 4)", x.person(1, 4), 0);
        Check.due("person(1, 5)", x.person(1, 5), 0);
        Check.due("has(8)", x.has(8), 0);
        Check.due("has(9)", x.has(9), 0);
        Check.due("undo()", x.undo(), false);
        Check.due("along(0)", x.along(0), -1);
        Check.due("where(0, 0)", x.where(0, 0), -1);
        Check.due("the seed stays", x.has(10), 77);
        Check.due("the refused stay", x.status(1), 1);
        Check.due("the image stays", x.octet(image - 1) >= 0, true);
        Check.due("an empty town", Check.town(x, ""), 0);
        int[] has = {0, 0, 0, -1, 0, 0, 0, 0, 0, 0, 77};
        for (int what = 0; what < has.length; what++) {
            Check.due("has(" + what + ") of an empty town", x.has(what), has[what]);
        }
        Check.due("a town without sums", Check.town(x, A + "room b door 9 floor 9;way a b takes 3;"
            + "person p strong 1 chair 9 wide 1 at a;"), 4);
        Check.due("nobody is joined", x.person(0, 6), -1);
        Check.due("no carpenter", x.has(3), -1);
        Check.due("no breaks", x.has(2), 0);
        Check.due("no slow", x.takes(0, 1, 0), 3);
        // two more towns, so that what either of the earlier ones left would be seen
        Check.due("with sums", Check.town(x, AB + "way a b takes 3;slow 50;stands 60;carpenter a;breaks 9;"), 7);
        Check.due("with nothing", Check.town(x, AB + "person p strong 1 chair 9 wide 1 at a;"), 3);
        Check.due("no way", x.way(0, 1), -1);
        Check.due("with sums", Check.town(x, AB + "way a b takes 3;slow 50;stands 60;carpenter a;breaks 9;"), 7);
        Check.due("without sums", Check.town(x, AB + "way a b takes 1;person p strong 1 chair 9 wide 1 at a;"), 4);
        Check.due("no slow of another town", x.takes(0, 1, 0), 1);
        x.go(0, 1, -1);
        Check.due("no stands of another town", x.stay(0, 4), 4);
        Check.due("no carpenter of another town", x.has(3), -1);
        Check.due("no breaks of another town", x.has(2), 0);
    }
}
