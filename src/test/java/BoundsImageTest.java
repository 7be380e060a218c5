import java.util.Arrays;

/** Promises 27 to 30: the boundaries of image, octet, on and status. */
public final class BoundsImageTest {
    private static final int LEAST = Integer.MIN_VALUE;
    private static final int MOST = Integer.MAX_VALUE;
    private static final String TOWN = "room a door 9 floor 4;room b door 1 floor 9;room c door 9 floor 99;way a b takes 2;"
        + "person p strong 1 chair 1 wide 2 at a;person q strong 1 chair 1 wide 1 at b;person r strong 1 chair 1 wide 3 at c;";

    public static void main(String[] args) {
        lengths();
        images();
        octets();
        latestImage();
        allAsItTells();
        roomsThatThereAre();
        broken();
        floors();
        clocksAndAches();
        lengthsOfATape();
        lastByte();
        refusedImages();
        status();
        Check.finish();
    }

    private static String people(int many) {
        StringBuilder text = new StringBuilder("room a door 9 floor 99;");
        for (int i = 0; i < many; i++) {
            text.append("person p").append((char) ('a' + i)).append(" strong 1 chair 1 wide 9 at a;");
        }
        return text.toString();
    }

    private static void lengths() {
        Check.sentence("AN IMAGE is written: how many bytes.");
        for (int many = 0; many <= 8; many++) {
            OwnChair x = Check.made(people(many));
            Look.at(x).same("image() is no act", Look.at(imaged(x)), BoundsTown.OCTETS);
            Check.due("image() of " + many, x.image(), 9 * many + 1);
            Check.due("its last byte is there", x.octet(9 * many) >= 0, true);
            Check.due("no more", x.octet(9 * many + 1), -1);
        }
        Check.due("on a new object", new OwnChair().image(), 1);
    }

    private static OwnChair imaged(OwnChair x) {
        x.image();
        return x;
    }

    private static void images() {
        Check.sentence("for each of the PEOPLE his ROOM, his chair's ROOM, 1 if it is broken, else 0, CLOCK, ACHE (three bytes each, "
            + "the higher first); last a byte: all ahead from 113 on, c = (5 c + it) mod 251.");
        OwnChair x = BoundsTown.busy();
        int[] due = new int[37];
        for (int p = 0; p < 4; p++) {
            due[9 * p] = x.person(p, 0);
            due[9 * p + 1] = x.person(p, 1);
            due[9 * p + 2] = x.person(p, 2);
            for (int k = 0; k < 3; k++) {
                due[9 * p + 3 + k] = x.person(p, 4) >> 16 - 8 * k & 255;
                due[9 * p + 6 + k] = x.person(p, 5) >> 16 - 8 * k & 255;
            }
        }
        Check.sealed(due);
        Check.due("image()", x.image(), 37);
        for (int k = 0; k < 37; k++) {
            Check.due("octet(" + k + ")", x.octet(k), due[k]);
        }
        eightUnlike();
        // 99999 is 1, 134, 159, at each place
        OwnChair most = Check.made(people(1));
        Check.due("on", Check.on(most, Check.sealed(0, 0, 1, 1, 134, 159, 1, 134, 159, 0)), true);
        Check.due("the latest CLOCK", most.person(0, 4), 99999);
        Check.due("the most ACHE", most.person(0, 5), 99999);
        int[] image = Check.image(most);
        Check.due("the higher first", image[3] * 1000000 + image[4] * 1000 + image[5], 1134159);
        Check.due("the higher first again", image[6] * 1000000 + image[7] * 1000 + image[8], 1134159);
    }

    /** Eight people, each with numbers of his own, so that no one's can be taken for another's. */
    private static void eightUnlike() {
        StringBuilder text = new StringBuilder();
        for (int i = 0; i < 8; i++) {
            text.append("room r").append((char) ('a' + i)).append(" door 9 floor 99;");
        }
        for (int i = 0; i < 8; i++) {
            text.append("person p").append((char) ('a' + i)).append(" strong 1 chair 1 wide 9 at ra;");
        }
        OwnChair x = Check.made(text.toString());
        for (int odd = 0; odd < 2; odd++) {
            int[] image = new int[73];
            for (int i = 0; i < 8; i++) {
                int[] row = {7 - i, (i + 3) % 8, (i + odd) % 2, 1, i, 100 + i, 0, 255 - i, 200 + i};
                System.arraycopy(row, 0, image, 9 * i, 9);
            }
            Check.due("on", Check.on(x, Check.sealed(image)), true);
            for (int i = 0; i < 8; i++) {
                Check.due("ROOM of " + i, x.person(i, 0), 7 - i);
                Check.due("chair of " + i, x.person(i, 1), (i + 3) % 8);
                Check.due("broken " + i, x.person(i, 2), (i + odd) % 2);
                Check.due("CLOCK of " + i, x.person(i, 4), 65536 + 256 * i + 100 + i);
                Check.due("ACHE of " + i, x.person(i, 5), 256 * (255 - i) + 200 + i);
            }
            Check.due("it comes back as it was", Arrays.equals(Check.image(x), image), true);
            Check.due("nothing is KEPT", x.has(8), 0);
        }
    }

    private static void octets() {
        Check.sentence("Byte k of the latest image(); NONE when there is none such.");
        OwnChair x = Check.made(TOWN);
        int[] all = {-1, 0, 1, 27, 72, 73, LEAST, MOST};
        for (int k : all) {
            Look.silent("octet(" + k + ") ahead of any", x, -1, y -> y.octet(k));
        }
        x.image();
        Check.due("the first", x.octet(0), 0);
        Check.due("the last", x.octet(27) >= 0, true);
        int[] none = {-1, 28, 29, 72, 73, LEAST, MOST};
        for (int k : none) {
            Look.silent("octet(" + k + ")", x, -1, y -> y.octet(k));
        }
        OwnChair eight = Check.made(people(8));
        eight.image();
        Check.due("the last of the longest", eight.octet(72) >= 0, true);
        Check.due("none behind it", eight.octet(73), -1);
    }

    private static void latestImage() {
        Check.sentence("Byte k of the latest image()");
        OwnChair x = Check.made(TOWN);
        x.image();
        x.go(0, 1, -1);
        Check.due("as it was written", x.octet(0), 0);
        x.image();
        Check.due("a later one", x.octet(0), 1);
        x.undo();
        Check.due("undo leaves it", x.octet(0), 1);
        Check.town(x, "!");
        Check.due("a FAULT leaves it", x.octet(0), 1);
        Check.town(x, "");
        x.image();
        Check.due("a shorter one", x.octet(0), 113);
        Check.due("no more of the longer one", x.octet(1), -1);
    }

    /** The image of TOWN as at first with one byte another one, and the last byte as is due. */
    private static int[] with(int k, int octet) {
        int[] image = Check.image(Check.made(TOWN));
        image[k] = octet;
        return Check.sealed(image);
    }

    private static OwnChair moved() {
        OwnChair x = Check.made(TOWN);
        x.go(0, 1, -1);
        x.stay(0, 5);
        Check.errand(x, 1, 0, 0);
        Check.standing(x, 2, 1);
        x.image();
        return x;
    }

    private static void good(String told, int[] image) {
        OwnChair x = moved();
        Check.due(told, Check.on(x, image), true);
        Check.due(told + ": no ACT can be undone", x.has(9), 0);
        Check.due(told + ": status(5)", x.status(5), 0);
        Check.due(told + ": the tape is gone", Look.tapeLength(x), 0);
        int[] again = Check.image(x);
        Check.due(told + ": all is as it tells", Arrays.equals(again, image), true);
    }

    private static void wrong(String told, int... image) {
        OwnChair x = moved();
        Check.tape(x, image);
        Look ahead = Look.at(x);
        Check.due(told, x.on(), false);
        ahead.same(told, Look.at(x));
        Check.due(told + ": status(5)", x.status(5), 1);
        Check.due(told + ": the tape is gone", Look.tapeLength(x), 0);
        x.undo();
        x.undo();
        Check.due(told + ": acts can be undone", x.person(0, 0) + x.person(0, 4) + x.person(0, 5), 0);
    }

    private static void allAsItTells() {
        Check.sentence("The tape (it goes) is AN IMAGE of this TOWN: true, all is as it tells, nothing is KEPT, no ACT can be undone;");
        OwnChair x = BoundsTown.busy();
        int[] image = Check.image(x);
        OwnChair other = BoundsTown.busy();
        other.days(30);
        other.image();
        int seed = other.has(10);
        int kept = other.has(8);
        Check.due("something is KEPT", kept > 0, true);
        Check.due("on", Check.on(other, image), true);
        Check.due("the tape is gone", Look.tapeLength(other), 0);
        Check.due("nothing is KEPT", other.has(8), 0);
        Check.due("no ACT", other.has(9), 0);
        Check.due("undo", other.undo(), false);
        Check.due("the seed stays", other.has(10), seed);
        for (int p = 0; p < 4; p++) {
            for (int what = 0; what < 11; what++) {
                Check.due("person(" + p + ", " + what + ")", other.person(p, what), x.person(p, what));
            }
        }
        Check.due("the ERRAND stays told", other.along(0), x.along(0));
        Check.due("the STANDING stays told", other.where(0, 0), x.where(0, 0));
        good("as at first", Check.image(Check.made(TOWN)));
    }

    private static void roomsThatThereAre() {
        Check.sentence("ROOMS that there are");
        for (int p = 0; p < 3; p++) {
            good("the last ROOM of one", with(9 * p, 2));
            good("the first", with(9 * p, 0));
            wrong("a ROOM behind the last", with(9 * p, 3));
            wrong("an eighth", with(9 * p, 7));
            wrong("ROOM 255", with(9 * p, 255));
            good("the last ROOM for a chair", with(9 * p + 1, 2));
            wrong("a ROOM behind the last for a chair", with(9 * p + 1, 3));
            wrong("ROOM 8 for a chair", with(9 * p + 1, 8));
            wrong("ROOM 255 for a chair", with(9 * p + 1, 255));
        }
    }

    private static void broken() {
        Check.sentence("1 if it is broken, else 0");
        for (int p = 0; p < 3; p++) {
            good("whole", with(9 * p + 2, 0));
            good("broken", with(9 * p + 2, 1));
            wrong("2", with(9 * p + 2, 2));
            wrong("255", with(9 * p + 2, 255));
        }
    }

    private static void floors() {
        Check.sentence("chairs no wider than floor in each");
        // a has a floor of 4: 2 and 1 are 3, 1 and 3 are 4, 2 and 3 are 5
        good("3 of 4", with(10, 0));
        int[] four = with(10, 0);
        four[1] = 1;
        four[19] = 0;
        good("4 of 4", Check.sealed(four));
        wrong("5 of 4", with(19, 0));
        int[] six = with(10, 0);
        six[19] = 0;
        wrong("6 of 4", Check.sealed(six));
        // a door is no matter for where a chair is told to be
        good("a chair of 2 behind a door of 1", with(1, 1));
        // where people are is no matter for floors
        int[] people = with(0, 0);
        people[9] = 0;
        people[18] = 0;
        good("all people in a", Check.sealed(people));
    }

    private static void clocksAndAches() {
        Check.sentence("CLOCKS, ACHES 99999 at most");
        int[][] numbers = {{0, 0, 0}, {0, 0, 255}, {0, 255, 255}, {1, 0, 0}, {1, 133, 255}, {1, 134, 158}, {1, 134, 159}, {1, 134, 160},
            {1, 135, 0}, {2, 0, 0}, {127, 0, 0}, {128, 0, 0}, {255, 255, 255}};
        for (int p = 0; p < 3; p++) {
            for (int first = 3; first <= 6; first += 3) {
                for (int[] number : numbers) {
                    int[] image = with(9 * p + first, number[0]);
                    image[9 * p + first + 1] = number[1];
                    image[9 * p + first + 2] = number[2];
                    Check.sealed(image);
                    int worth = number[0] * 65536 + number[1] * 256 + number[2];
                    if (worth <= 99999) {
                        good(String.valueOf(worth), image);
                    } else {
                        wrong(String.valueOf(worth), image);
                    }
                }
            }
        }
    }

    private static void lengthsOfATape() {
        Check.sentence("The tape (it goes) is AN IMAGE of this TOWN");
        int[] image = Check.image(Check.made(TOWN));
        int[] lengths = {0, 1, 9, 10, 18, 19, 26, 27, 29, 30, 36, 37, 73, 74, 1580};
        for (int length : lengths) {
            int[] other = Arrays.copyOf(image, length);
            wrong(length + " bytes", length > 0 ? Check.sealed(other) : other);
        }
        wrong("an image of nobody", 113);
        wrong("an image of one", Check.image(Check.made(people(1))));
        wrong("an image of four", Check.image(Check.made(people(4))));
    }

    private static void lastByte() {
        Check.sentence("last a byte: all ahead from 113 on, c = (5 c + it) mod 251.");
        int[] image = Check.image(Check.made(TOWN));
        for (int octet = 0; octet < 256; octet++) {
            int[] other = image.clone();
            other[27] = octet;
            if (octet == image[27]) {
                good("the last byte", other);
            } else {
                wrong("another last byte", other);
            }
        }
        // a last byte of 0 and of 250 can be, 251 more than what is due can't
        boolean[] seen = new boolean[251];
        for (int minutes = 0; minutes < 256; minutes++) {
            int[] other = with(5, minutes);
            if (other[27] <= 4 || other[27] == 250) {
                seen[other[27]] = true;
                good("a last byte of " + other[27], other);
                other[27] += 251;
                if (other[27] < 256) {
                    wrong("and 251 more", other);
                }
            }
        }
        Check.due("0, 4 and 250 were seen", seen[0] && seen[4] && seen[250], true);
    }

    private static void refusedImages() {
        Check.sentence("false, refused (5), all staying, if it is none such");
        OwnChair x = new OwnChair();
        Check.due("nothing on the tape of a new object", x.on(), false);
        Check.due("112", Check.on(x, 112), false);
        Check.due("two bytes", Check.on(x, 113, 113), false);
        Check.due("status(5)", x.status(5), 3);
        Check.due("113", Check.on(x, 113), true);
        Check.due("status(5)", x.status(5), 3);
        OwnChair busy = BoundsTown.busy();
        Check.tape(busy, Check.image(Check.made(TOWN)));
        Look ahead = Look.at(busy);
        Check.due("an image of another town", busy.on(), false);
        ahead.same("an image of another town", Look.at(busy));
        Check.due("status(5)", busy.status(5), 1);
    }

    private static void status() {
        Check.sentence("How many were refused: 0 feed(), end(); 1 town(); 2 go(), stay(); 3 mend(), days(); 4 undo(); 5 seed(), errand(), "
            + "standing(), on(). NONE for others.");
        Look.Call[] calls = {y -> Look.bit(y.end(-1)), y -> y.town(), y -> y.go(-1, 0, -1), y -> y.stay(-1, 0),
            y -> Look.bit(y.mend(-1, 0)), y -> y.days(0), y -> Look.bit(y.undo()), y -> Look.bit(y.seed(-1)), y -> y.errand(-1),
            y -> y.standing(), y -> Look.bit(y.on())};
        int[] kinds = {0, 1, 2, 2, 3, 3, 4, 5, 5, 5, 5};
        int[] due = new int[6];
        OwnChair x = new OwnChair();
        for (int round = 0; round < 3; round++) {
            for (int i = 0; i < calls.length; i++) {
                Check.tape(x, "!");
                calls[i].of(x);
                due[kinds[i]]++;
                for (int what = 0; what < 6; what++) {
                    Check.due("status(" + what + ") behind call " + i, x.status(what), due[what]);
                }
            }
        }
        int[] others = {-1, 6, 7, 100, LEAST, MOST};
        for (int what : others) {
            Check.due("status(" + what + ")", x.status(what), -1);
        }
        feeds();
        x.end(0);
        Check.due("a TOWN leaves them", x.town(), 0);
        for (int what = 1; what < 6; what++) {
            Check.due("status(" + what + ")", x.status(what), due[what]);
        }
    }

    private static void feeds() {
        OwnChair x = new OwnChair();
        for (int i = 0; i < 85; i++) {
            x.feed(1, 2, 3, 4, 5);
            Check.due("status(0)", x.status(0), Math.max(0, i - 79));
        }
        x.end(1601);
        Check.due("status(0)", x.status(0), 6);
        for (int what = 1; what < 6; what++) {
            Check.due("status(" + what + ")", x.status(what), 0);
        }
    }
}
