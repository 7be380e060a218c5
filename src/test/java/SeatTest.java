/** Promises 24 to 26: seated, standing, where. */
public final class SeatTest {
    private static final int LEAST = Integer.MIN_VALUE;
    private static final int MOST = Integer.MAX_VALUE;
    private static final String ROOMS = "room a door 9 floor 20;room b door 3 floor 6;room c door 9 floor 5;way a b takes 1;"
        + "way a c takes 1;way b c takes 1;";

    public static void main(String[] args) {
        seated();
        seatedJoined();
        seatedBroken();
        seatedWrong();
        standing();
        standingJoined();
        standingEight();
        standingWrong();
        standingStays();
        Check.finish();
    }

    private static String person(String name, int wide, String room) {
        return "person " + name + " strong 5 chair 5 wide " + wide + " at " + room + ";";
    }

    private static void seated() {
        // widths 3 4 2 2 1; b has a door of 3 and a floor of 6, c a floor of 5
        OwnChair x = Check.made(ROOMS + person("p", 3, "a") + person("q", 4, "a") + person("r", 2, "a")
            + person("s", 2, "b") + person("t", 1, "a"));
        Check.due("all in a", x.seated(0, 31), 31);
        Check.due("b: p, s and t, or r, s and t: the least bits", x.seated(1, 31), 1 + 8 + 16);
        Check.due("b: of p and q", x.seated(1, 3), 1);
        Check.due("b: of q, whose chair is wider than the door", x.seated(1, 2), 0);
        Check.due("b: of p and r: s's chair stays", x.seated(1, 5), 1);
        Check.due("b: p, t", x.seated(1, 17), 17);
        Check.due("b: of p, r, t: two of them, the least bits", x.seated(1, 21), 17);
        Check.due("c: r, s, t", x.seated(2, 31), 28);
        Check.due("c: q and t, or p and r: the least bits", x.seated(2, 7), 5);
        Check.due("c: of q and t", x.seated(2, 18), 18);
        Check.due("nobody asked", x.seated(0, 0), 0);
        // a door does not matter for a chair that is there: bigger than the door it can't come but by a text
        Check.due("s is there", x.seated(1, 8), 8);
    }

    private static void seatedJoined() {
        OwnChair x = Check.made(ROOMS + person("p", 2, "a") + person("q", 2, "b") + person("r", 1, "a") + "joined p q;");
        Check.due("both or none", x.seated(0, 1), 0);
        Check.due("both", x.seated(0, 3), 3);
        Check.due("b: the chair of p is as wide as both for the door", x.seated(1, 7), 4);
        Check.due("c", x.seated(2, 7), 7);
        Check.due("c without q", x.seated(2, 5), 4);
        // both chairs are there already: no door
        OwnChair y = Check.made(ROOMS + person("p", 2, "b") + person("q", 2, "b") + "joined p q;");
        Check.due("both there", y.seated(1, 3), 3);
        Check.due("one of them", y.seated(1, 2), 0);
    }

    private static void seatedBroken() {
        OwnChair x = Check.made(ROOMS + person("p", 2, "a") + person("q", 2, "a") + person("r", 2, "a")
            + "joined q r;breaks 100;carpenter b;");
        x.go(0, 1, 0);
        Check.due("p's chair is broken", x.seated(1, 1), 0);
        Check.due("where he could sit otherwise", x.seated(0, 7), 6);
        x.mend(0, 0);
        Check.due("whole again", x.seated(1, 1), 1);
        x.go(1, 2, 1);
        Check.due("q's chair is broken: r can't either", x.seated(0, 6), 0);
        Check.due("p alone", x.seated(0, 7), 1);
        Check.due("the broken chair stays in c: 2 of 5", x.seated(2, 5), 1);
    }

    private static void seatedWrong() {
        OwnChair x = Check.made(ROOMS + person("p", 2, "a") + person("q", 2, "a"));
        int[][] wrong = {{3, 0}, {-1, 0}, {0, 4}, {0, -1}, {0, LEAST}, {0, MOST}, {LEAST, 0}, {MOST, 1}, {0, 7}};
        for (int[] w : wrong) {
            Check.due("seated(" + w[0] + ", " + w[1] + ")", x.seated(w[0], w[1]), -1);
        }
        OwnChair empty = Check.made(ROOMS);
        Check.due("nobody there", empty.seated(0, 0), 0);
        Check.due("none such", empty.seated(0, 1), -1);
    }

    private static void standing() {
        // p's and q's chairs are in a, r's in b
        OwnChair x = Check.made(ROOMS + person("p", 2, "a") + person("q", 2, "a") + person("r", 2, "b"));
        // nobody stands in a: r is in b or c, p and q anywhere: 2 * 3 * 3
        Check.due("a 0", Check.standing(x, 0, 0), 18);
        int[][] due = {{6, 6, 6}, {6, 6, 6}, {0, 9, 9}};
        wheres(x, due);
        // one stands in b: p or q, not both; r anywhere: 2 * 1 * 2 * 3
        Check.due("b 1", Check.standing(x, 1, 1), 12);
        wheres(x, new int[][] {{3, 6, 3}, {3, 6, 3}, {4, 4, 4}});
        // c has two and a none: p q in c and r in b; or r in c and one of p q in c, the other in a or b
        Check.due("c 2, a 0", Check.standing(x, 2, 2, 0, 0), 1 + 2 * 2);
        Check.due("three stand in c", Check.standing(x, 2, 3), 1);
        Check.due("four stand in c", Check.standing(x, 2, 4), 0);
        wheres(x, new int[3][3]);
        Check.due("255 stand in c", Check.standing(x, 2, 255, 1, 255, 0, 255), 0);
        Check.due("all rooms told", Check.standing(x, 0, 0, 1, 0, 2, 0), 1);
        wheres(x, new int[][] {{1, 0, 0}, {1, 0, 0}, {0, 1, 0}});
        OwnChair nobody = Check.made(ROOMS);
        Check.due("nobody, none stands", Check.standing(nobody, 0, 0, 2, 0), 1);
        Check.due("nobody, one stands", Check.standing(nobody, 0, 1), 0);
        Check.due("where is nobody", nobody.where(0, 0), -1);
    }

    private static void wheres(OwnChair x, int[][] due) {
        for (int p = 0; p < due.length; p++) {
            for (int r = 0; r < due[p].length; r++) {
                Check.due("where(" + p + ", " + r + ")", x.where(p, r), due[p][r]);
            }
        }
    }

    private static void standingJoined() {
        OwnChair x = Check.made(ROOMS + person("p", 2, "a") + person("q", 2, "a") + person("r", 2, "b") + "joined q r;");
        // q and r sit nowhere; p in a alone: nobody stands in a: 3 * 2 * 2
        Check.due("a 0", Check.standing(x, 0, 0), 12);
        OwnChair y = Check.made(ROOMS + person("p", 2, "a") + "breaks 100;");
        y.go(0, 1, 0);
        Check.due("a broken chair is none", Check.standing(y, 1, 0), 2);
    }

    private static void standingEight() {
        StringBuilder text = new StringBuilder();
        for (int i = 0; i < 8; i++) {
            text.append("room r").append((char) ('a' + i)).append(" door 9 floor 99;");
        }
        for (int i = 0; i < 8; i++) {
            text.append("person p").append((char) ('a' + i)).append(" strong 1 chair 1 wide 1 at ra;");
        }
        OwnChair x = Check.made(text.toString());
        Check.due("all anywhere: nobody ever stands in a", Check.standing(x, 0, 0), 16777216);
        for (int p = 0; p < 8; p++) {
            for (int r = 0; r < 8; r++) {
                Check.due("where(" + p + ", " + r + ")", x.where(p, r), 2097152);
            }
        }
        // one in each but a: the eighth is in a and sits: 8!
        Check.due("one in each", Check.standing(x, 1, 1, 2, 1, 3, 1, 4, 1, 5, 1, 6, 1, 7, 1), 40320);
        Check.due("where(3, 5)", x.where(3, 5), 5040);
        Check.due("eight rows", Check.standing(x, 7, 1, 6, 1, 5, 1, 4, 1, 3, 1, 2, 1, 1, 1, 0, 0), 40320);
        Check.due("eight of them in h", Check.standing(x, 7, 8), 1);
        Check.due("where(0, 7)", x.where(0, 7), 1);
        Check.due("where(0, 0)", x.where(0, 0), 0);
        // 4 in b and 4 in c: 70 ways
        Check.due("four and four", Check.standing(x, 1, 4, 2, 4), 70);
        Check.due("where(7, 2)", x.where(7, 2), 35);
        // the most states: two in each of four rooms, eight people: 8! / 16
        Check.due("two in each of four", Check.standing(x, 1, 2, 2, 2, 3, 2, 4, 2), 2520);
        Check.due("one in each of eight: one must stand in a, and can't", Check.standing(x, 0, 1, 1, 1, 2, 1, 3, 1, 4, 1,
            5, 1, 6, 1, 7, 1), 0);
    }

    private static void standingWrong() {
        OwnChair x = Check.made(ROOMS + person("p", 2, "a"));
        Check.due("ahead of any", x.where(0, 0), -1);
        int[][] wrong = {{}, {0}, {0, 0, 1}, {3, 0}, {255, 0}, {0, 0, 0, 0}, {0, 1, 1, 1, 0, 1},
            {0, 0, 1, 0, 2, 0, 3, 0, 4, 0, 5, 0, 6, 0, 7, 0, 8, 0}};
        for (int i = 0; i < wrong.length; i++) {
            Check.due("standing " + i, Check.standing(x, wrong[i]), -1);
            Check.due("status(5)", x.status(5), i + 1);
            Check.due("the tape is gone", x.end(1), false);
            Check.due("none told", x.where(0, 0), -1);
        }
        Check.due("standing", Check.standing(x, 0, 0), 3);
        int[][] none = {{1, 0}, {-1, 0}, {0, 3}, {0, -1}, {LEAST, 0}, {0, MOST}, {8, 8}};
        for (int[] w : none) {
            Check.due("where(" + w[0] + ", " + w[1] + ")", x.where(w[0], w[1]), -1);
        }
    }

    private static void standingStays() {
        OwnChair x = Check.made(ROOMS + person("p", 2, "a"));
        Check.due("standing", Check.standing(x, 0, 1), 0);
        Check.due("standing in b", Check.standing(x, 1, 1), 1);
        Check.due("where(0, 1)", x.where(0, 1), 1);
        x.go(0, 1, 0);
        Check.due("as it was then", x.where(0, 1), 1);
        Check.standing(x, 9, 9);
        Check.due("a refused one leaves it", x.where(0, 1), 1);
        Check.due("on", Check.on(x, Check.image(x)), true);
        Check.due("an image leaves it", x.where(0, 1), 1);
        Check.town(x, "!");
        Check.due("a fault leaves it", x.where(0, 1), 1);
        Check.due("standing now", Check.standing(x, 1, 1), 0);
        Check.due("where(0, 1)", x.where(0, 1), 0);
        Check.town(x, ROOMS + person("p", 2, "a"));
        Check.due("another town takes it away", x.where(0, 1), -1);
    }
}
