/** Terms II and promises 13 to 19: the boundaries of go, stay, mend, days, undo, seed and kept. */
public final class BoundsActTest {
    private static final int LEAST = Integer.MIN_VALUE;
    private static final int MOST = Integer.MAX_VALUE;
    private static final String ROOMS = "room a door 9 floor 9;room b door 9 floor 9;room c door 2 floor 9;room d door 9 floor 9;"
        + "way a b takes 2;way b c takes 60;";
    private static final String P = "person p strong 1 chair 1 wide 2 at a;";
    private static final String Q = "person q strong 2 chair 9 wide 3 at a;";

    public static void main(String[] args) {
        clocksAtFirst();
        goes();
        goesWithAChair();
        refusedGoes();
        breaksByADraw();
        waits();
        refusedStays();
        mends();
        refusedMends();
        latestClocks();
        mostAches();
        days();
        refusedDays();
        dayByDay();
        daysOfOneMinute();
        daysWithoutWays();
        keptOnes();
        lastForty();
        keptNone();
        undoes();
        lastTwenty();
        refusedUndoes();
        refusedActsAreNone();
        seeds();
        refusedSeeds();
        draws();
        Check.finish();
    }

    private static long next(long seed) {
        return (1103515245L * seed + 12345) % 2147483648L;
    }

    /** An object in which p stands far from his chair, his clock and ache being as told. */
    private static OwnChair at(String text, int clock, int ache) {
        OwnChair x = Check.made(text);
        int[] image = Check.image(x);
        for (int k = 0; k < 3; k++) {
            image[3 + k] = clock >> 16 - 8 * k & 255;
            image[6 + k] = ache >> 16 - 8 * k & 255;
        }
        Check.due("on", Check.on(x, Check.sealed(image)), true);
        return x;
    }

    private static void clocksAtFirst() {
        Check.sentence("Each has a CLOCK of his own, 0 at first.");
        OwnChair x = Check.made(ROOMS + P + Q);
        Check.due("at first", x.person(0, 4) + x.person(1, 4), 0);
        x.stay(1, 999);
        Check.due("his own", x.person(0, 4), 0);
        Check.due("the other's", x.person(1, 4), 999);
    }

    private static void goes() {
        Check.sentence("One GOES (chair NONE: without one): his CLOCK then");
        OwnChair x = Check.made(ROOMS + P + Q + "slow 100;breaks 100;");
        Check.due("without a chair", x.go(0, 1, -1), 2);
        Check.due("and on", x.go(0, 2, -1), 62);
        Check.due("and back", x.go(0, 1, -1), 122);
        Check.due("his ROOM", x.person(0, 0), 1);
        Check.due("his chair stays", x.person(0, 1), 0);
        Check.due("no DRAW", x.has(10), 1);
        Check.due("nothing is KEPT", x.has(8), 0);
        Check.due("three ACTS", x.has(9), 3);
        Check.due("nothing is refused", x.status(2), 0);
    }

    private static void goesWithAChair() {
        Check.sentence("with a whole chair that is in his ROOM (his own, or another one's) and FITS where he goes by what it takes "
            + "and the SUM of slow");
        OwnChair x = Check.made(ROOMS + P + Q + "slow weight;");
        Check.due("with another one's", x.go(0, 1, 1), 2 + 9);
        Check.due("the chair is there then", x.person(1, 1), 1);
        Check.due("its owner is not", x.person(1, 0), 0);
        Check.due("its owner's CLOCK", x.person(1, 4), 0);
        Check.due("back without", x.go(0, 0, -1), 13);
        Check.due("with his own", x.go(0, 1, 0), 13 + 2 + 1);
        Check.due("through a door of 2", x.go(0, 2, 0), 16 + 60 + 1);
        Check.due("a chair of 3 does not", x.takes(0, 1, 1), -1);
    }

    private static void refusedGoes() {
        Check.sentence("NONE, refused (2), when that can't be.");
        OwnChair x = BoundsTown.busy();
        Check.tape(x, 1, 2, 3);
        int[][] wrong = {
            // no way, none such
            {0, 0, -1}, {0, 3, -1}, {0, 4, -1}, {0, -1, -1}, {4, 0, -1}, {-1, 0, -1}, {0, 1, 4}, {0, 1, -2}, {8, 0, -1}, {0, 8, -1},
            {LEAST, 0, -1}, {0, LEAST, -1}, {0, 1, LEAST}, {MOST, 0, -1}, {0, MOST, -1}, {0, 1, MOST},
            // a chair that is elsewhere, one that is broken, doors that are too small
            {0, 1, 3}, {1, 0, 1}, {0, 1, 2}, {0, 1, 0}, {0, 1, 1}, {0, 2, 1}};
        for (int[] w : wrong) {
            Look.refused("go(" + w[0] + ", " + w[1] + ", " + w[2] + ")", x, 2, -1, y -> y.go(w[0], w[1], w[2]));
        }
        OwnChair full = Check.made("room a door 9 floor 9;room b door 9 floor 4;way a b takes 1;"
            + "person p strong 1 chair 1 wide 3 at a;person q strong 1 chair 1 wide 1 at b;person r strong 1 chair 1 wide 4 at a;");
        Look.refused("a floor with no room", full, 2, -1, y -> y.go(2, 1, 2));
        Check.due("a floor with just room", full.go(0, 1, 0), 1);
        Look.refused("on a new object", new OwnChair(), 2, -1, y -> y.go(0, 0, -1));
    }

    private static void breaksByADraw() {
        Check.sentence("a DRAW of 100 is made (if breaks is above 0): below breaks it is broken.");
        for (int seed = 0; seed < 120; seed++) {
            int draw = (int) (next(seed) / 64 % 100);
            int[] bounds = {0, draw, draw + 1, 100, 1};
            for (int breaks : bounds) {
                OwnChair x = Check.made(ROOMS + P + "breaks " + breaks + ";");
                x.seed(seed);
                x.go(0, 1, 0);
                Check.due("draw " + draw + " with breaks " + breaks, x.person(0, 2), draw < breaks ? 1 : 0);
                Check.due("the seed behind it", x.has(10), breaks > 0 ? next(seed) : seed);
                Check.due("KEPT all the same", x.has(8), 1);
            }
        }
    }

    private static void waits() {
        Check.sentence("One WAITS n minutes (1 .. 999): his ACHE then");
        for (int n = 1; n <= 999; n += 499) {
            OwnChair x = Check.made(ROOMS + P);
            Check.due("he sits for " + n, x.stay(0, n), 0);
            Check.due("his CLOCK", x.person(0, 4), n);
            x.go(0, 1, -1);
            Check.due("he stands for " + n, x.stay(0, n), n);
            Check.due("his CLOCK", x.person(0, 4), 2 * n + 2);
            Check.due("and again", x.stay(0, n), 2 * n);
            Check.due("ACTS", x.has(9), 4);
        }
    }

    private static void refusedStays() {
        Check.sentence("NONE, refused (2), when that can't be.");
        OwnChair x = BoundsTown.busy();
        Check.tape(x, 1, 2, 3);
        int[][] wrong = {{0, 0}, {0, -1}, {0, 1000}, {0, 1001}, {3, 0}, {3, 1000}, {4, 1}, {-1, 1}, {8, 1}, {0, LEAST}, {0, MOST},
            {LEAST, 999}, {MOST, 1}};
        for (int[] w : wrong) {
            Look.refused("stay(" + w[0] + ", " + w[1] + ")", x, 2, -1, y -> y.stay(w[0], w[1]));
        }
        Look.refused("on a new object", new OwnChair(), 2, -1, y -> y.stay(0, 1));
    }

    private static void mends() {
        Check.sentence("One who is in the carpenter's ROOM has a broken chair there MENDED: his CLOCK is 30 later.");
        OwnChair x = Check.made(ROOMS + P + Q + "breaks 100;carpenter b;");
        x.go(0, 1, 0);
        x.go(1, 1, -1);
        Check.due("broken", x.person(0, 2), 1);
        Check.due("another one has it mended", x.mend(1, 0), true);
        Check.due("whole", x.person(0, 2), 0);
        Check.due("his CLOCK", x.person(1, 4), 32);
        Check.due("not the owner's", x.person(0, 4), 2);
        Check.due("an ACT", x.has(9), 3);
        Check.due("nothing is KEPT of it", x.has(8), 1);
        Check.due("no DRAW", x.has(10), next(1));
        x.undo();
        Check.due("he himself", x.mend(0, 0), true);
        Check.due("his CLOCK", x.person(0, 4), 32);
    }

    private static void refusedMends() {
        Check.sentence("false, refused (3), when he is not in the carpenter's ROOM, it is not there, or not broken.");
        OwnChair x = Check.made(ROOMS + P + Q + "person r strong 1 chair 1 wide 1 at b;person s strong 1 chair 1 wide 1 at c;"
            + "breaks 100;carpenter b;");
        x.go(0, 1, 0);
        x.go(0, 0, -1);
        Look.refused("he is not there", x, 3, 0, y -> Look.bit(y.mend(0, 0)));
        Look.refused("it is not broken", x, 3, 0, y -> Look.bit(y.mend(2, 2)));
        Look.refused("it is not there", x, 3, 0, y -> Look.bit(y.mend(2, 1)));
        Look.refused("neither is there", x, 3, 0, y -> Look.bit(y.mend(1, 1)));
        x.go(3, 1, -1);
        x.go(3, 2, -1);
        Look.refused("he is in another ROOM", x, 3, 0, y -> Look.bit(y.mend(3, 0)));
        int[][] wrong = {{4, 0}, {-1, 0}, {2, 4}, {2, -1}, {8, 0}, {2, 8}, {LEAST, 0}, {MOST, 0}, {2, LEAST}, {2, MOST}};
        for (int[] w : wrong) {
            Look.refused("mend(" + w[0] + ", " + w[1] + ")", x, 3, 0, y -> Look.bit(y.mend(w[0], w[1])));
        }
        Check.due("then it is mended", x.mend(2, 0), true);
        Look.refused("it is whole again", x, 3, 0, y -> Look.bit(y.mend(2, 0)));
        OwnChair broken = Check.made(ROOMS + P + "breaks 100;carpenter a;");
        broken.go(0, 1, 0);
        broken.go(0, 0, -1);
        Look.refused("broken, but not there", broken, 3, 0, y -> Look.bit(y.mend(0, 0)));
        OwnChair none = Check.made(ROOMS + P + "breaks 100;");
        none.go(0, 1, 0);
        Look.refused("no carpenter", none, 3, 0, y -> Look.bit(y.mend(0, 0)));
        Look.refused("on a new object", new OwnChair(), 3, 0, y -> Look.bit(y.mend(0, 0)));
    }

    private static void latestClocks() {
        Check.sentence("CLOCKS, ACHES are 99999 at most.");
        for (int clock = 99995; clock <= 99999; clock++) {
            OwnChair x = at(ROOMS + P + "slow 1;", clock, 0);
            Check.due("go from " + clock, x.go(0, 1, -1), Math.min(99999, clock + 2));
            x.undo();
            Check.due("go with it from " + clock, x.go(0, 1, 0), Math.min(99999, clock + 3));
            Check.due("its minutes are all of them", x.kept(0, 3), 3);
            x.undo();
            Check.due("what it takes is all of it", x.takes(0, 1, 0), 3);
            x.stay(0, 3);
            Check.due("stay from " + clock, x.person(0, 4), Math.min(99999, clock + 3));
        }
        for (int clock = 99967; clock <= 99972; clock++) {
            OwnChair x = at(ROOMS + P + "breaks 100;carpenter b;", clock, 0);
            Check.due("go from " + clock, x.go(0, 1, 0), clock + 2);
            Check.due("mend", x.mend(0, 0), true);
            Check.due("mended from " + (clock + 2), x.person(0, 4), Math.min(99999, clock + 32));
        }
        OwnChair latest = at(ROOMS + P, 99999, 0);
        for (int i = 0; i < 3; i++) {
            latest.days(30);
            Check.due("days at the latest CLOCK", latest.person(0, 4), 99999);
        }
        // ten minutes of a day: 99989 comes to the last one, 99990 would come behind it
        for (int clock = 99988; clock <= 99990; clock++) {
            OwnChair x = at("room a door 9 floor 9;" + P, clock, 0);
            long seed = waitingSeed();
            x.seed((int) seed);
            x.days(1);
            Check.due("a day's waiting from " + clock, x.person(0, 4), Math.min(99999, clock + 10));
        }
    }

    /** A seed whose first DRAW of 3 is 2. */
    private static long waitingSeed() {
        long seed = 0;
        while (next(seed) / 64 % 3 != 2) {
            seed++;
        }
        return seed;
    }

    private static void mostAches() {
        Check.sentence("CLOCKS, ACHES are 99999 at most.");
        for (int ache = 99995; ache <= 99999; ache++) {
            OwnChair x = at(ROOMS + P, 0, ache);
            x.go(0, 1, -1);
            Check.due("stay with " + ache, x.stay(0, 3), Math.min(99999, ache + 3));
            Check.due("has(7)", x.has(7), Math.min(99999, ache + 3));
        }
        OwnChair most = at(ROOMS + P + "stands 9999;", 99999, 99000);
        most.go(0, 1, -1);
        Check.due("the most at once to the most", most.stay(0, 1), 99999);
        Check.due("no more", most.stay(0, 999), 99999);
        for (int ache = 99988; ache <= 99990; ache++) {
            OwnChair x = at(ROOMS + P, 0, ache);
            x.go(0, 1, -1);
            x.seed((int) waitingSeed());
            x.days(1);
            Check.due("a day's standing with " + ache, x.person(0, 5), Math.min(99999, ache + 10));
        }
    }

    private static void days() {
        Check.sentence("n DAYS by the seed (1 .. 30), one ACT: how many chairs were carried");
        for (int n = 1; n <= 30; n++) {
            OwnChair whole = BoundsTown.untouched();
            OwnChair single = BoundsTown.untouched();
            whole.seed(77 + n);
            single.seed(77 + n);
            int carried = 0;
            for (int day = 0; day < n; day++) {
                carried += single.days(1);
                Check.due("an ACT each", single.has(9), Math.min(20, day + 1));
            }
            Check.due("days(" + n + ")", whole.days(n), carried);
            Check.due("one ACT", whole.has(9), 1);
            Check.due("KEPT", whole.has(8), Math.min(40, carried));
            Look.at(whole).same("days(" + n + ") and as many times one", Look.at(single), "has(9)");
            Check.due("undo", whole.undo(), true);
            Look.at(BoundsTown.untouched()).same("all of them undone", Look.at(whole), "has(10)");
            Check.due("the seed is not undone", whole.has(10), single.has(10));
        }
    }

    private static void refusedDays() {
        Check.sentence("NONE, refused (3), when n can't be.");
        OwnChair x = BoundsTown.busy();
        Check.tape(x, 1, 2, 3);
        int[] wrong = {0, 31, -1, 32, 1000, LEAST, MOST};
        for (int n : wrong) {
            Look.refused("days(" + n + ")", x, 3, -1, y -> y.days(n));
            Look.refused("days(" + n + ") on a new object", new OwnChair(), 3, -1, y -> y.days(n));
        }
        OwnChair none = new OwnChair();
        Check.due("a day of nobody", none.days(1), 0);
        Check.due("thirty days of nobody", none.days(30), 0);
        Check.due("ACTS all the same", none.has(9), 2);
        Check.due("no DRAW", none.has(10), 1);
    }

    /** Each day told again by the document's words, with a pair of people and a chair that can't go everywhere. */
    private static void dayByDay() {
        Check.sentence("for each of the PEOPLE, by numbers: a DRAW of 3 (0: nothing; 1: he GOES; 2: he WAITS 10 minutes); "
            + "to go a DRAW of the ROOMS to which there is a way from his, by numbers (without ways no DRAW, nothing), "
            + "with his own chair, if it can be, else without.");
        int[][] near = {{1}, {0, 2}, {1}};
        for (int start = 0; start < 60; start++) {
            OwnChair x = Check.made(ROOMS + P + Q);
            x.seed(start);
            long seed = start;
            int[] room = {0, 0};
            int[] chair = {0, 0};
            int[] clock = {0, 0};
            int[] ache = {0, 0};
            for (int day = 0; day < 8; day++) {
                int carried = 0;
                for (int p = 0; p < 2; p++) {
                    seed = next(seed);
                    long choice = seed / 64 % 3;
                    if (choice == 1) {
                        seed = next(seed);
                        int to = near[room[p]][(int) (seed / 64 % near[room[p]].length)];
                        clock[p] += room[p] + to == 1 ? 2 : 60;
                        if (chair[p] == room[p] && (to != 2 || p == 0)) {
                            chair[p] = to;
                            carried++;
                        }
                        room[p] = to;
                    } else if (choice == 2) {
                        clock[p] += 10;
                        ache[p] += chair[p] == room[p] ? 0 : 10;
                    }
                }
                Check.due("a day from " + start, x.days(1), carried);
                Check.due("the seed", x.has(10), seed);
                for (int p = 0; p < 2; p++) {
                    Check.due("ROOM", x.person(p, 0), room[p]);
                    Check.due("chair", x.person(p, 1), chair[p]);
                    Check.due("CLOCK", x.person(p, 4), clock[p]);
                    Check.due("ACHE", x.person(p, 5), ache[p]);
                }
            }
        }
    }

    /** The shortest way there can be is one to go by, too. */
    private static void daysOfOneMinute() {
        Check.sentence("to go a DRAW of the ROOMS to which there is a way from his, by numbers");
        OwnChair x = Check.made("room a door 9 floor 9;room b door 9 floor 9;room c door 9 floor 9;way a c takes 1;way a b takes 1;" + P);
        long seed = 1;
        int room = 0;
        int carried = 0;
        int clock = 0;
        for (int day = 0; day < 30; day++) {
            seed = next(seed);
            long choice = seed / 64 % 3;
            clock += choice == 2 ? 10 : 0;
            if (choice == 1) {
                seed = next(seed);
                room = room == 0 ? 1 + (int) (seed / 64 % 2) : 0;
                carried++;
                clock++;
            }
        }
        Check.due("days(30)", x.days(30), carried);
        Check.due("his ROOM", x.person(0, 0), room);
        Check.due("his CLOCK", x.person(0, 4), clock);
        Check.due("the seed", x.has(10), seed);
    }

    private static void daysWithoutWays() {
        Check.sentence("(without ways no DRAW, nothing)");
        OwnChair x = Check.made("room a door 9 floor 9;" + P + Q);
        x.seed(5);
        long seed = 5;
        int clocks = 0;
        for (int i = 0; i < 60; i++) {
            seed = next(seed);
            clocks += seed / 64 % 3 == 2 ? 10 : 0;
        }
        Check.due("nothing is carried", x.days(30), 0);
        Check.due("one DRAW a day and person", x.has(10), seed);
        Check.due("they have waited alone", x.person(0, 4) + x.person(1, 4), clocks);
    }

    private static void keptOnes() {
        Check.sentence("KEPT is each chair that was carried: whose, by whom, to which ROOM, minutes (the last 40 are told).");
        OwnChair x = Check.made(ROOMS + P + Q + "slow own;");
        x.go(0, 1, 1);
        x.go(0, 0, -1);
        x.go(0, 1, 0);
        x.go(0, 2, 0);
        int[][] due = {{1, 0, 1, 2}, {0, 0, 1, 3}, {0, 0, 2, 61}};
        for (int k = 0; k < 3; k++) {
            for (int what = 0; what < 4; what++) {
                Check.due("kept(" + k + ", " + what + ")", x.kept(k, what), due[k][what]);
            }
        }
        Check.due("a way without a chair is none", x.has(8), 3);
        keptOfEight();
    }

    /** Whose, by whom and to which ROOM at their first and last: every one of eight carries every one of eight chairs. */
    private static void keptOfEight() {
        StringBuilder text = new StringBuilder();
        for (int i = 0; i < 8; i++) {
            text.append("room r").append((char) ('a' + i)).append(" door 9 floor 99;");
        }
        for (int i = 1; i < 8; i++) {
            text.append("way ra r").append((char) ('a' + i)).append(" takes ").append(i == 1 ? 1 : 60).append(";");
        }
        for (int i = 0; i < 8; i++) {
            text.append("person p").append((char) ('a' + i)).append(" strong 1 chair 1 wide 1 at ra;");
        }
        for (int by = 0; by < 8; by++) {
            OwnChair x = Check.made(text + "slow 9999;");
            for (int whose = 0; whose < 8; whose++) {
                int to = 1 + (by + whose) % 7;
                x.go(by, to, whose);
                x.go(by, 0, -1);
                Check.due("whose", x.kept(whose, 0), whose);
                Check.due("by whom", x.kept(whose, 1), by);
                Check.due("to which ROOM", x.kept(whose, 2), to);
                Check.due("minutes", x.kept(whose, 3), to == 1 ? 1000 : 1059);
                Check.due("no ACHE comes of it", x.has(7), 0);
            }
        }
    }

    private static void lastForty() {
        Check.sentence("(the last 40 are told)");
        OwnChair x = Check.made(ROOMS + P + "slow clock;");
        int clock = 0;
        int[] minutes = new int[100];
        for (int i = 0; i < 100; i++) {
            minutes[i] = 2 + Math.min(999, clock);
            clock += minutes[i];
            Check.due("go " + i, x.go(0, 1 - i % 2, 0), clock);
            int told = Math.min(40, i + 1);
            Check.due("has(8)", x.has(8), told);
            Check.due("the oldest told", x.kept(0, 3), minutes[i + 1 - told]);
            Check.due("the latest", x.kept(told - 1, 3), minutes[i]);
            Check.due("none behind it", x.kept(told, 3), -1);
        }
        for (int k = 0; k < 40; k++) {
            Check.due("kept(" + k + ", 3)", x.kept(k, 3), minutes[60 + k]);
            Check.due("kept(" + k + ", 2)", x.kept(k, 2), 1 - k % 2);
        }
        for (int i = 1; i <= 20; i++) {
            x.undo();
            Check.due("told with " + i + " undone", x.has(8), 40);
            Check.due("the oldest comes back", x.kept(0, 3), minutes[60 - i]);
            Check.due("the latest", x.kept(39, 3), minutes[99 - i]);
        }
    }

    private static void keptNone() {
        Check.sentence("Of the k-th chair that is told as KEPT, from the oldest on: 0 whose, 1 by whom, 2 ROOM, 3 minutes. "
            + "NONE when there is none such, or for others.");
        OwnChair x = BoundsTown.busy();
        Check.due("two are told", x.has(8), 2);
        int[][] none = {{2, 0}, {-1, 0}, {40, 0}, {39, 3}, {0, 4}, {0, -1}, {1, 4}, {1, -1}, {LEAST, 0}, {MOST, 0}, {0, LEAST}, {0, MOST}};
        for (int[] n : none) {
            Look.silent("kept(" + n[0] + ", " + n[1] + ")", x, -1, y -> y.kept(n[0], n[1]));
        }
        Look.silent("kept on a new object", new OwnChair(), -1, y -> y.kept(0, 0));
    }

    private static void undoes() {
        Check.sentence("The latest ACT is undone: all is as it was ahead of it (but the seed): true;");
        OwnChair x = BoundsTown.untouched();
        Look.Call[] acts = {y -> y.go(3, 1, 3), y -> y.go(2, 0, 2), y -> y.stay(2, 999), y -> y.go(0, 2, -1), y -> y.days(30),
            y -> y.stay(1, 1), y -> Look.bit(y.mend(3, 3))};
        x.seed(1);
        Look[] ahead = new Look[acts.length];
        int done = 0;
        for (Look.Call act : acts) {
            Look look = Look.at(x);
            if (act.of(x) >= 0) {
                ahead[done] = look;
                done = x.has(9);
            }
        }
        Check.due("acts", done >= 5, true);
        for (int i = done - 1; i >= 0; i--) {
            int seed = x.has(10);
            Check.due("undo", x.undo(), true);
            ahead[i].same("ahead of act " + i, Look.at(x), "has(10)");
            Check.due("but the seed", x.has(10), seed);
        }
    }

    private static void lastTwenty() {
        Check.sentence("The last 20 ACTS can be undone.");
        int[] many = {1, 19, 20, 21, 39, 40, 41, 65};
        for (int n : many) {
            OwnChair x = Check.made(ROOMS + P);
            for (int i = 1; i <= n; i++) {
                x.stay(0, i);
                Check.due("ACTS of " + i, x.has(9), Math.min(20, i));
            }
            int clock = n * (n + 1) / 2;
            int most = Math.min(20, n);
            for (int i = 0; i < most; i++) {
                Check.due("undo " + i + " of " + n, x.undo(), true);
                clock -= n - i;
                Check.due("CLOCK", x.person(0, 4), clock);
                Check.due("ACTS left", x.has(9), most - 1 - i);
            }
            Check.due("one more", x.undo(), false);
            Check.due("CLOCK", x.person(0, 4), clock);
            // and from there on anew, over the place where the row of acts turns round
            for (int i = 1; i <= 25; i++) {
                x.stay(0, 1);
            }
            Check.due("twenty again", x.has(9), 20);
            for (int i = 0; i < 7; i++) {
                x.undo();
            }
            x.stay(0, 100);
            Check.due("fourteen", x.has(9), 14);
            x.undo();
            Check.due("CLOCK", x.person(0, 4), clock + 18);
        }
    }

    private static void refusedUndoes() {
        Check.sentence("false, refused (4), when none can be.");
        Look.refused("on a new object", new OwnChair(), 4, 0, y -> Look.bit(y.undo()));
        OwnChair x = BoundsTown.busy();
        Check.tape(x, 1, 2, 3);
        for (int i = 6; i > 0; i--) {
            Check.due("ACTS", x.has(9), i);
            Check.due("undo", x.undo(), true);
        }
        Look.refused("all are undone", x, 4, 0, y -> Look.bit(y.undo()));
        Look.refused("once more", x, 4, 0, y -> Look.bit(y.undo()));
        Look.at(BoundsTown.untouched()).same("all as at first", Look.at(x), BoundsTown.TOLD);
    }

    /** A refused call between an act and its undo leaves the act to be undone. */
    private static void refusedActsAreNone() {
        Check.sentence("The latest ACT is undone");
        Look.Call[] refused = {y -> y.go(0, 1, -1), y -> y.stay(0, 0), y -> Look.bit(y.mend(0, 0)), y -> y.days(0),
            y -> Look.bit(y.seed(-1)), y -> y.town(), y -> y.errand(0), y -> y.standing(), y -> Look.bit(y.on()),
            y -> Look.bit(y.end(-1))};
        for (int i = 0; i < refused.length; i++) {
            OwnChair x = BoundsTown.busy();
            Look ahead = Look.at(x);
            x.go(0, 1, -1);
            Check.tape(x, "!");
            int answer = refused[i].of(x);
            Check.due("refused call " + i, answer == -1 || answer == 0, true);
            Check.due("ACTS", x.has(9), 7);
            Check.due("undo", x.undo(), true);
            ahead.same("undone behind refused call " + i, Look.at(x), "fault(0)", "fault(1)");
        }
    }

    private static void seeds() {
        Check.sentence("The seed: true; false, refused (5), when it is below 0.");
        int[] good = {0, 1, 2, 63, 64, 12345, MOST - 1, MOST};
        for (int seed : good) {
            OwnChair x = BoundsTown.busy();
            Look ahead = Look.at(x);
            Check.due("seed(" + seed + ")", x.seed(seed), true);
            Check.due("has(10)", x.has(10), seed);
            ahead.same("seed(" + seed + ") is no act", Look.at(x), "has(10)");
            Check.due("status(5)", x.status(5), 0);
        }
    }

    private static void refusedSeeds() {
        Check.sentence("false, refused (5), when it is below 0.");
        OwnChair x = BoundsTown.busy();
        Check.tape(x, 1, 2, 3);
        int[] wrong = {-1, -2, LEAST + 1, LEAST};
        for (int seed : wrong) {
            Look.refused("seed(" + seed + ")", x, 5, 0, y -> Look.bit(y.seed(seed)));
            Look.refused("seed(" + seed + ") on a new object", new OwnChair(), 5, 0, y -> Look.bit(y.seed(seed)));
        }
    }

    private static void draws() {
        Check.sentence("A DRAW of m: x (the seed) becomes (1103515245 x + 12345) mod 2 to the 31; floor(x / 64) mod m.");
        int[] seeds = {0, 1, 2, 63, 64, 65, 12345, 1 << 30, MOST - 64, MOST - 1, MOST};
        for (int seed : seeds) {
            OwnChair x = Check.made(ROOMS + P + "breaks 1;");
            x.seed(seed);
            long due = seed;
            for (int i = 0; i < 40; i++) {
                if (x.person(0, 2) == 1) {
                    break;
                }
                x.go(0, 1 - i % 2, 0);
                due = next(due);
                Check.due("draw " + i + " from " + seed, x.has(10), due);
                Check.due("broken", x.person(0, 2), due / 64 % 100 < 1 ? 1 : 0);
            }
        }
        // the least and the most that the seed can become are reached from a seed each
        OwnChair x = Check.made(ROOMS + P + "breaks 100;");
        x.seed(seedBefore(0));
        x.go(0, 1, 0);
        Check.due("it becomes 0", x.has(10), 0);
        OwnChair y = Check.made(ROOMS + P + "breaks 100;");
        y.seed(seedBefore(MOST));
        y.go(0, 1, 0);
        Check.due("it becomes the most", y.has(10), MOST);
    }

    /** The seed from which a DRAW comes to this one: the factor is odd, so there is just one. */
    private static int seedBefore(long seed) {
        long inverse = 1;
        for (int i = 0; i < 5; i++) {
            inverse = inverse * (2 - 1103515245L * inverse) & MOST;
        }
        return (int) ((seed - 12345) * inverse & MOST);
    }
}
