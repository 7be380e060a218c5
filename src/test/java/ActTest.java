/** Promises 13 to 19: go, stay, mend, days, undo, seed, kept. */
public final class ActTest {
    private static final int LEAST = Integer.MIN_VALUE;
    private static final int MOST = Integer.MAX_VALUE;
    private static final String PAIR = "room a door 9 floor 9;room b door 9 floor 9;room c door 1 floor 9;"
        + "way a b takes 2;way b c takes 60;";
    private static final String P = "person p strong 1 chair 1 wide 2 at a;";
    private static final String Q = "person q strong 2 chair 9 wide 3 at a;";

    public static void main(String[] args) {
        goes();
        breaks();
        latest();
        stays();
        mends();
        days();
        daysOfNobody();
        undoes();
        seeds();
        kept();
        Check.finish();
    }

    private static void goes() {
        OwnChair x = Check.made(PAIR + P + Q + "slow weight;");
        Check.due("go without", x.go(0, 1, -1), 2);
        Check.due("he is there", x.person(0, 0), 1);
        Check.due("his chair is not", x.person(0, 1), 0);
        Check.due("go back", x.go(0, 0, -1), 4);
        Check.due("go with another one's", x.go(0, 1, 1), 4 + 2 + 9);
        Check.due("it is there", x.person(1, 1), 1);
        Check.due("its owner is not", x.person(1, 0), 0);
        Check.due("he has another clock", x.person(1, 4), 0);
        Check.due("acts", x.has(9), 3);
        int[][] wrong = {{0, 1, -1}, {0, 2, 1}, {0, 0, 0}, {0, 3, -1}, {0, -1, -1}, {2, 0, -1}, {-1, 0, -1}, {0, 0, 2},
            {0, 0, -2}, {MOST, LEAST, MOST}, {1, 2, -1}, {1, 1, 1}};
        for (int i = 0; i < wrong.length; i++) {
            int[] w = wrong[i];
            Check.due("go(" + w[0] + ", " + w[1] + ", " + w[2] + ")", x.go(w[0], w[1], w[2]), -1);
            Check.due("status(2)", x.status(2), i + 1);
        }
        Check.due("refused ones are no acts", x.has(9), 3);
        Check.due("and no draws", x.has(10), 1);
        Check.due("a narrow door without a chair", x.go(0, 2, -1), 75);
    }

    private static void breaks() {
        OwnChair never = Check.made(PAIR + P + "breaks 0;");
        never.go(0, 1, 0);
        Check.due("no draw without breaks", never.has(10), 1);
        Check.due("whole", never.has(5), 0);
        OwnChair sure = Check.made(PAIR + P + "breaks 100;");
        sure.go(0, 1, -1);
        Check.due("no draw without a chair", sure.has(10), 1);
        sure.go(0, 0, -1);
        Check.due("go with it", sure.go(0, 1, 0), 6);
        Check.due("a draw", sure.has(10), 1103527590);
        Check.due("broken", sure.person(0, 2), 1);
        Check.due("he does not sit on it", sure.person(0, 3), 0);
        Check.due("it can't be taken", sure.go(0, 0, 0), -1);
        Check.due("it is there still", sure.room(1, 4), 1);
        Check.due("has(5)", sure.has(5), 1);
        // from seed 1 the draw of 100 is floor(1103527590 / 64) mod 100 = 17242618 mod 100 = 18
        OwnChair just = Check.made(PAIR + P + "breaks 18;");
        just.go(0, 1, 0);
        Check.due("18 is not below 18", just.has(5), 0);
        OwnChair more = Check.made(PAIR + P + "breaks 19;");
        more.go(0, 1, 0);
        Check.due("18 is below 19", more.has(5), 1);
    }

    private static void latest() {
        OwnChair x = Check.made(PAIR + P + "slow 999;");
        for (int i = 0; i < 100; i++) {
            x.stay(0, 999);
        }
        Check.due("clock", x.person(0, 4), 99900);
        Check.due("99998", x.stay(0, 98), 0);
        Check.due("clock", x.person(0, 4), 99998);
        Check.due("one minute is left", x.go(0, 1, 0), 99999);
        Check.due("kept minutes are all of them", x.kept(0, 3), 1001);
        Check.due("none is left", x.go(0, 0, -1), 99999);
        for (int i = 0; i < 101; i++) {
            x.stay(0, 999);
        }
        Check.due("ache", x.person(0, 5), 99999);
        Check.due("has(7)", x.has(7), 99999);
        Check.due("has(6)", x.has(6), 99999);
    }

    private static void stays() {
        OwnChair x = Check.made(PAIR + P + Q + "stands takes*2+weight;");
        Check.due("he sits", x.stay(0, 5), 0);
        Check.due("his clock", x.person(0, 4), 5);
        x.go(0, 1, -1);
        Check.due("he stands", x.stay(0, 1), 3);
        Check.due("he stands on", x.stay(0, 999), 3 + 999);
        Check.due("clock", x.person(0, 4), 7 + 1 + 999);
        int[][] wrong = {{0, 0}, {0, 1000}, {0, -1}, {2, 5}, {-1, 5}, {0, LEAST}, {0, MOST}, {LEAST, 1}};
        for (int i = 0; i < wrong.length; i++) {
            Check.due("stay(" + wrong[i][0] + ", " + wrong[i][1] + ")", x.stay(wrong[i][0], wrong[i][1]), -1);
            Check.due("status(2)", x.status(2), i + 1);
        }
        Check.due("acts", x.has(9), 4);
    }

    private static void mends() {
        OwnChair x = Check.made(PAIR + P + Q + "breaks 100;carpenter b;");
        Check.due("not there", x.mend(0, 0), false);
        x.go(0, 1, 0);
        x.go(1, 1, -1);
        Check.due("the other one's chair is whole and away", x.mend(0, 1), false);
        int[][] wrong = {{2, 0}, {-1, 0}, {0, 2}, {0, -1}, {LEAST, 0}, {0, MOST}};
        for (int[] w : wrong) {
            Check.due("mend(" + w[0] + ", " + w[1] + ")", x.mend(w[0], w[1]), false);
        }
        Check.due("status(3)", x.status(3), 8);
        Check.due("acts", x.has(9), 2);
        Check.due("another one has it mended", x.mend(1, 0), true);
        Check.due("his clock", x.person(1, 4), 32);
        Check.due("not the owner's", x.person(0, 4), 2);
        Check.due("whole", x.person(0, 2), 0);
        Check.due("he sits", x.person(0, 3), 1);
        Check.due("it is whole already", x.mend(1, 0), false);
        Check.due("an act", x.has(9), 3);
        x.undo();
        Check.due("broken again", x.person(0, 2), 1);
        Check.due("clock again", x.person(1, 4), 2);
        x.go(1, 0, -1);
        Check.due("he is not with the carpenter", x.mend(1, 0), false);
        OwnChair none = Check.made(PAIR + P + "breaks 100;");
        none.go(0, 1, 0);
        Check.due("no carpenter", none.mend(0, 0), false);
        OwnChair away = Check.made(PAIR + P + "breaks 100;carpenter a;");
        away.go(0, 1, 0);
        away.go(0, 0, -1);
        Check.due("the chair is not with the carpenter", away.mend(0, 0), false);
        OwnChair late = Check.made(PAIR + P + "breaks 100;carpenter b;");
        late.go(0, 1, 0);
        for (int i = 0; i < 101; i++) {
            late.stay(0, 999);
        }
        Check.due("mended at the latest clock", late.mend(0, 0), true);
        Check.due("the latest clock", late.person(0, 4), 99999);
    }

    /** The draws of the document, told again by the seed alone. */
    private static void days() {
        OwnChair x = Check.made(PAIR + P + Q);
        long seed = 12345;
        x.seed(12345);
        int[] at = {0, 0};
        int[] chair = {0, 0};
        int[] clock = {0, 0};
        int[] ache = {0, 0};
        int carried = 0;
        int[][] near = {{1}, {0, 2}, {1}};
        for (int day = 0; day < 30; day++) {
            for (int p = 0; p < 2; p++) {
                seed = (1103515245L * seed + 12345) % (1L << 31);
                long choice = seed / 64 % 3;
                if (choice == 1) {
                    seed = (1103515245L * seed + 12345) % (1L << 31);
                    int to = near[at[p]][(int) (seed / 64 % near[at[p]].length)];
                    clock[p] += at[p] + to == 1 ? 2 : 60;
                    if (chair[p] == at[p] && to != 2) {
                        chair[p] = to;
                        carried++;
                    }
                    at[p] = to;
                } else if (choice == 2) {
                    clock[p] += 10;
                    ache[p] += chair[p] == at[p] ? 0 : 10;
                }
            }
        }
        Check.due("days(30)", x.days(30), carried);
        Check.due("seed", x.has(10), seed);
        for (int p = 0; p < 2; p++) {
            Check.due("room of " + p, x.person(p, 0), at[p]);
            Check.due("chair of " + p, x.person(p, 1), chair[p]);
            Check.due("clock of " + p, x.person(p, 4), clock[p]);
            Check.due("ache of " + p, x.person(p, 5), ache[p]);
        }
        Check.due("they are kept", x.has(8), Math.min(40, carried));
        Check.due("one act", x.has(9), 1);
        Check.due("undo all of it", x.undo(), true);
        Check.due("clock at first", x.has(6), 0);
        Check.due("the seed is not undone", x.has(10), seed);
        int[] wrong = {0, 31, -1, LEAST, MOST};
        for (int i = 0; i < wrong.length; i++) {
            Check.due("days(" + wrong[i] + ")", x.days(wrong[i]), -1);
            Check.due("status(3)", x.status(3), i + 1);
        }
        Check.due("no draws", x.has(10), seed);
    }

    private static void daysOfNobody() {
        OwnChair x = new OwnChair();
        Check.due("days of nobody", x.days(1), 0);
        Check.due("an act", x.has(9), 1);
        Check.due("no draw", x.has(10), 1);
        OwnChair lone = Check.made("room a door 9 floor 9;person p strong 1 chair 1 wide 1 at a;");
        // seed 3: the draws of 3 from it are made, one a day, and no draw of rooms
        long seed = 3;
        lone.seed(3);
        int clock = 0;
        for (int day = 0; day < 20; day++) {
            seed = (1103515245L * seed + 12345) % (1L << 31);
            clock += seed / 64 % 3 == 2 ? 10 : 0;
        }
        Check.due("days without ways", lone.days(20), 0);
        Check.due("one draw a day", lone.has(10), seed);
        Check.due("clock", lone.has(6), clock);
    }

    private static void undoes() {
        OwnChair x = Check.made(PAIR + P + Q);
        Check.due("nothing to undo", x.undo(), false);
        Check.due("status(4)", x.status(4), 1);
        for (int i = 0; i < 25; i++) {
            Check.due("stay", x.stay(0, 1), 0);
            Check.due("acts that can be undone", x.has(9), Math.min(20, i + 1));
        }
        for (int i = 0; i < 20; i++) {
            Check.due("undo " + i, x.undo(), true);
            Check.due("clock", x.person(0, 4), 24 - i);
            Check.due("left", x.has(9), 19 - i);
        }
        Check.due("the 21st", x.undo(), false);
        Check.due("clock", x.person(0, 4), 5);
        Check.due("status(4)", x.status(4), 2);
        x.go(0, 1, 0);
        x.go(0, 0, -1);
        x.go(1, 1, 1);
        x.undo();
        x.undo();
        Check.due("p is in b again", x.person(0, 0), 1);
        Check.due("kept again", x.has(8), 1);
        x.go(1, 1, -1);
        Check.due("another act", x.has(9), 2);
        x.undo();
        x.undo();
        Check.due("p and his chair", x.room(0, 3) * 10 + x.room(0, 4), 33);
        Check.due("none kept", x.has(8), 0);
    }

    private static void seeds() {
        OwnChair x = new OwnChair();
        Check.due("seed(0)", x.seed(0), true);
        Check.due("has(10)", x.has(10), 0);
        Check.due("seed(most)", x.seed(MOST), true);
        Check.due("has(10)", x.has(10), MOST);
        Check.due("seed(-1)", x.seed(-1), false);
        Check.due("seed(least)", x.seed(LEAST), false);
        Check.due("status(5)", x.status(5), 2);
        Check.due("it stays", x.has(10), MOST);
        Check.due("no act", x.has(9), 0);
        OwnChair y = Check.made(PAIR + P + "breaks 1;");
        y.seed(MOST);
        y.go(0, 1, 0);
        Check.due("a draw from the most", y.has(10), (1103515245L * MOST + 12345) % (1L << 31));
        OwnChair z = Check.made(PAIR + P + "breaks 1;");
        z.seed(0);
        z.go(0, 1, 0);
        Check.due("a draw from 0", z.has(10), 12345);
        Check.due("floor(12345 / 64) mod 100 = 92", z.has(5), 0);
    }

    private static void kept() {
        OwnChair x = Check.made(PAIR + P + Q + "slow own;");
        x.go(0, 1, 1);
        x.go(0, 0, -1);
        x.go(0, 1, 0);
        int[][] due = {{1, 0, 1, 2}, {0, 0, 1, 3}};
        for (int k = 0; k < 2; k++) {
            for (int what = 0; what < 4; what++) {
                Check.due("kept(" + k + ", " + what + ")", x.kept(k, what), due[k][what]);
            }
            Check.due("kept(" + k + ", 4)", x.kept(k, 4), -1);
            Check.due("kept(" + k + ", -1)", x.kept(k, -1), -1);
            Check.due("kept(" + k + ", least)", x.kept(k, LEAST), -1);
        }
        Check.due("kept(2, 0)", x.kept(2, 0), -1);
        Check.due("kept(-1, 0)", x.kept(-1, 0), -1);
        Check.due("kept(most, 0)", x.kept(MOST, 0), -1);
        OwnChair y = Check.made(PAIR + P + "slow clock;");
        int clock = 0;
        int[] minutes = new int[45];
        for (int i = 0; i < 45; i++) {
            minutes[i] = 2 + Math.min(999, clock);
            clock = Math.min(99999, clock + minutes[i]);
            Check.due("go " + i, y.go(0, 1 - i % 2, 0), clock);
            Check.due("has(8)", y.has(8), Math.min(40, i + 1));
        }
        for (int k = 0; k < 40; k++) {
            Check.due("room of " + k, y.kept(k, 2), 1 - (k + 5) % 2);
            Check.due("minutes of " + k, y.kept(k, 3), minutes[k + 5]);
        }
        Check.due("the 41st", y.kept(40, 0), -1);
        y.undo();
        Check.due("the one pushed out is back", y.kept(0, 3), minutes[4]);
        Check.due("the last one", y.kept(39, 3), minutes[43]);
        Check.due("has(8)", y.has(8), 40);
    }
}
