/** Eight ROOMS and eight PEOPLE, the most there can be, through all the calls. */
public final class EightTest {
    public static void main(String[] args) {
        names();
        image();
        acts();
        standing();
        seated();
        days();
        Check.finish();
    }

    /** Person i has a chair of width 1 at room i; each room has a way of i + 1 minutes to the next one. */
    private static String town() {
        StringBuilder text = new StringBuilder();
        for (int i = 0; i < 8; i++) {
            text.append("room r").append((char) ('a' + i)).append(" door ").append(i + 2).append(" floor ").append(90 + i)
                .append(";");
        }
        for (int i = 0; i < 8; i++) {
            text.append("way r").append((char) ('a' + i)).append(" r").append((char) ('a' + (i + 1) % 8)).append(" takes ")
                .append(i + 1).append(";");
        }
        for (int i = 0; i < 8; i++) {
            text.append("person p").append((char) ('a' + i)).append(" strong ").append(10 + i).append(" chair ").append(20 + i)
                .append(" wide 1 at r").append((char) ('a' + i)).append(";");
        }
        return text.toString();
    }

    private static void names() {
        OwnChair x = Check.made(town());
        for (int i = 0; i < 8; i++) {
            Check.due("letter of room " + i, x.letter(0, i, 1), i + 1);
            Check.due("letter of person " + i, x.letter(1, i, 1), i + 1);
            Check.due("door " + i, x.room(i, 0), i + 2);
            Check.due("floor " + i, x.room(i, 1), 90 + i);
            Check.due("people " + i, x.room(i, 3), 1 << i);
            Check.due("chairs " + i, x.room(i, 4), 1 << i);
            Check.due("who sits " + i, x.room(i, 5), 1 << i);
            Check.due("way " + i, x.way(i, (i + 1) % 8), i + 1);
            Check.due("way back " + i, x.way((i + 1) % 8, i), i + 1);
            Check.due("strong " + i, x.person(i, 7), 10 + i);
            Check.due("weight " + i, x.person(i, 8), 20 + i);
        }
        Check.due("a ninth room", x.room(8, 0), -1);
        Check.due("a ninth person", x.person(8, 0), -1);
    }

    private static void image() {
        OwnChair x = Check.made(town());
        int[] image = new int[73];
        for (int i = 0; i < 8; i++) {
            int[] row = {7 - i, (i + 3) % 8, i % 2, 0, i, 100 + i, 1, 2 * i, 200 + i};
            System.arraycopy(row, 0, image, 9 * i, 9);
        }
        Check.due("on", Check.on(x, Check.sealed(image)), true);
        for (int i = 0; i < 8; i++) {
            Check.due("room of " + i, x.person(i, 0), 7 - i);
            Check.due("chair of " + i, x.person(i, 1), (i + 3) % 8);
            Check.due("broken " + i, x.person(i, 2), i % 2);
            Check.due("clock of " + i, x.person(i, 4), 256 * i + 100 + i);
            Check.due("ache of " + i, x.person(i, 5), 65536 + 512 * i + 200 + i);
        }
        Check.due("image", x.image(), 73);
        for (int k = 0; k < 73; k++) {
            Check.due("octet " + k, x.octet(k), image[k]);
        }
        Check.due("octet 73", x.octet(73), -1);
        Check.due("broken ones", x.has(5), 4);
        Check.due("the latest clock", x.has(6), 7 * 256 + 107);
        Check.due("all aches", x.has(7), 8 * 65536 + 512 * 28 + 8 * 200 + 28);
    }

    private static void acts() {
        OwnChair x = Check.made(town() + "breaks 100;carpenter ra;slow weight;");
        for (int i = 0; i < 8; i++) {
            int to = (i + 1) % 8;
            Check.due("go " + i, x.go(i, to, i), i + 1 + 20 + i);
            Check.due("kept whose " + i, x.kept(i, 0), i);
            Check.due("kept by whom " + i, x.kept(i, 1), i);
            Check.due("kept where " + i, x.kept(i, 2), to);
            Check.due("kept minutes " + i, x.kept(i, 3), i + 1 + 20 + i);
        }
        Check.due("all broken", x.has(5), 8);
        Check.due("mend", x.mend(7, 7), true);
        Check.due("all but one broken", x.has(5), 7);
        Check.due("the last one is whole", x.person(7, 2), 0);
        Check.due("its clock", x.person(7, 4), 8 + 27 + 30);
        Check.due("the last one carried by another", x.go(0, 0, -1), 22);
        Check.due("the first carries the last one's", x.go(0, 7, 7), 22 + 8 + 27);
        Check.due("kept whose", x.kept(8, 0), 7);
        Check.due("kept by whom", x.kept(8, 1), 0);
        Check.due("kept where", x.kept(8, 2), 7);
        Check.due("stay", x.stay(7, 9), 9);
        Check.due("stay of the first", x.stay(0, 10), 10);
        for (int i = 0; i < 13; i++) {
            Check.due("undo " + i, x.undo(), true);
        }
        Check.due("all as at first", x.has(4) * 100 + x.has(5) * 10 + x.has(6) + x.has(8), 800);
    }

    private static void standing() {
        StringBuilder text = new StringBuilder(town());
        for (int i = 0; i < 8; i += 2) {
            text.append("joined p").append((char) ('a' + i)).append(" p").append((char) ('b' + i)).append(";");
        }
        OwnChair x = Check.made(text.toString());
        // joined ones with chairs in unlike rooms sit nowhere: one in each room, 8 factorial
        Check.due("one in each", Check.standing(x, 0, 1, 1, 1, 2, 1, 3, 1, 4, 1, 5, 1, 6, 1, 7, 1), 40320);
        for (int p = 0; p < 8; p++) {
            for (int r = 0; r < 8; r++) {
                Check.due("where(" + p + ", " + r + ")", x.where(p, r), 5040);
            }
        }
        Check.due("none in h", Check.standing(x, 7, 0), 5764801);
        Check.due("where(0, 7)", x.where(0, 7), 0);
        Check.due("255 in each", Check.standing(x, 0, 255, 1, 255, 2, 255, 3, 255, 4, 255, 5, 255, 6, 255, 7, 255), 0);
        Check.due("255 in four", Check.standing(x, 0, 255, 1, 255, 2, 255, 3, 255), 0);
        Check.due("nine in one", Check.standing(x, 4, 9), 0);
        Check.due("where", x.where(3, 3), 0);
    }

    private static void seated() {
        OwnChair x = Check.made(town());
        for (int r = 0; r < 8; r++) {
            Check.due("all in " + r, x.seated(r, 255), 255);
            Check.due("256 is none such", x.seated(r, 256), -1);
        }
    }

    /** Every way takes one minute: a way that short is one to go by, too. */
    private static void days() {
        String text = "room a door 9 floor 9;room b door 9 floor 9;way a b takes 1;person p strong 1 chair 1 wide 1 at a;";
        OwnChair x = Check.made(text);
        long seed = 1;
        int gone = 0;
        int waited = 0;
        for (int day = 0; day < 30; day++) {
            seed = (1103515245L * seed + 12345) % (1L << 31);
            long choice = seed / 64 % 3;
            if (choice == 1) {
                seed = (1103515245L * seed + 12345) % (1L << 31);
                gone++;
            }
            waited += choice == 2 ? 10 : 0;
        }
        Check.due("way", x.way(0, 1), 1);
        Check.due("days(30)", x.days(30), gone);
        Check.due("clock", x.person(0, 4), gone + waited);
        Check.due("seed", x.has(10), seed);
    }
}
