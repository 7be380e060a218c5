/** Promises 27 to 30: image, octet, on, status. */
public final class ImageTest {
    private static final String TOWN = "room a door 9 floor 4;room b door 9 floor 9;way a b takes 2;"
        + "person p strong 1 chair 1 wide 2 at a;person q strong 1 chair 1 wide 2 at b;person r strong 1 chair 1 wide 1 at b;"
        + "breaks 100;";

    public static void main(String[] args) {
        bytes();
        back();
        changed();
        edges();
        refusals();
        status();
        Check.finish();
    }

    private static void bytes() {
        OwnChair x = Check.made(TOWN);
        Check.due("octet ahead of any", x.octet(0), -1);
        x.go(0, 1, -1);
        for (int i = 0; i < 70; i++) {
            x.stay(0, 999);
        }
        x.go(1, 0, 1);
        x.stay(1, 300);
        int[] due = {1, 0, 0, 69932 >> 16, 69932 >> 8 & 255, 69932 & 255, 69930 >> 16, 69930 >> 8 & 255, 69930 & 255,
            0, 0, 1, 0, 302 >> 8, 302 & 255, 0, 300 >> 8, 300 & 255, 1, 1, 0, 0, 0, 0, 0, 0, 0, 0};
        Check.sealed(due);
        Check.due("image()", x.image(), 28);
        for (int k = 0; k < 28; k++) {
            Check.due("octet(" + k + ")", x.octet(k), due[k]);
        }
        Check.due("octet(28)", x.octet(28), -1);
        Check.due("octet(-1)", x.octet(-1), -1);
        Check.due("octet(least)", x.octet(Integer.MIN_VALUE), -1);
        Check.due("octet(most)", x.octet(Integer.MAX_VALUE), -1);
        x.go(1, 1, -1);
        Check.due("it stays as it was written", x.octet(9), 0);
        Check.due("it is no act", x.has(9), 20);
        Check.town(x, "");
        Check.due("it stays over a town", x.octet(11), 1);
        Check.due("a shorter one", x.image(), 1);
        Check.due("its byte", x.octet(0), 113);
        Check.due("no more of the longer one", x.octet(1), -1);
    }

    private static void back() {
        OwnChair x = Check.made(TOWN);
        x.seed(99);
        x.go(0, 1, 0);
        x.stay(0, 7);
        long seed = x.has(10);
        int[] image = Check.image(x);
        x.go(0, 0, -1);
        x.go(1, 0, 1);
        Check.due("kept", x.has(8), 2);
        long later = x.has(10);
        Check.due("on", Check.on(x, image), true);
        Check.due("room of p", x.person(0, 0), 1);
        Check.due("chair of p", x.person(0, 1), 1);
        Check.due("broken", x.person(0, 2), 1);
        Check.due("clock", x.person(0, 4), 9);
        Check.due("ache", x.person(0, 5), 7);
        Check.due("room of q", x.person(1, 0), 1);
        Check.due("whole", x.person(1, 2), 0);
        Check.due("nothing is kept", x.has(8), 0);
        Check.due("no act can be undone", x.undo(), false);
        Check.due("the seed stays", x.has(10), later);
        Check.due("it was another one", seed == later, false);
        Check.due("the tape is gone", x.end(1), false);
        Check.due("status(5)", x.status(5), 0);
        int[] again = Check.image(x);
        for (int k = 0; k < image.length; k++) {
            Check.due("byte " + k, again[k], image[k]);
        }
        OwnChair other = Check.made(TOWN);
        Check.due("on in another object", Check.on(other, image), true);
        Check.due("clock there", other.person(0, 4), 9);
    }

    private static int[] with(int k, int octet) {
        int[] image = Check.image(Check.made(TOWN));
        image[k] = octet;
        return Check.sealed(image);
    }

    private static void on(String told, int[] image, boolean due) {
        OwnChair x = Check.made(TOWN);
        x.go(0, 1, -1);
        x.stay(0, 5);
        Check.due(told, Check.on(x, image), due);
        Check.due(told + ": status(5)", x.status(5), due ? 0 : 1);
        Check.due(told + ": the tape is gone", x.end(1), false);
        if (!due) {
            Check.due(told + ": all stays", x.person(0, 0) * 1000 + x.person(0, 4) * 10 + x.person(0, 5), 1075);
            Check.due(told + ": acts stay", x.has(9), 2);
        }
    }

    private static void changed() {
        int[] image = Check.image(Check.made(TOWN));
        on("as it is", image, true);
        for (int k = 0; k < image.length; k++) {
            int[] other = image.clone();
            other[k] = (other[k] + 1) % 256;
            on("byte " + k + " one more", other, false);
        }
        int[] shorter = java.util.Arrays.copyOf(image, image.length - 1);
        on("one less", shorter, false);
        on("one less, sealed", Check.sealed(shorter), false);
        on("one more, sealed", Check.sealed(java.util.Arrays.copyOf(image, image.length + 1)), false);
        on("nothing", new int[0], false);
        // a last byte that is the due one and 251 more is not the due one
        for (int minutes = 0; minutes < 256; minutes++) {
            int[] other = with(5, minutes);
            if (other[27] + 251 < 256) {
                on("clock " + minutes, other, true);
                other[27] += 251;
                on("clock " + minutes + " with 251 more", other, false);
            }
        }
    }

    private static void edges() {
        on("room 1", with(0, 1), true);
        on("room 2", with(0, 2), false);
        on("room 255", with(0, 255), false);
        on("chair room 2", with(1, 2), false);
        on("broken", with(2, 1), true);
        on("broken 2", with(2, 2), false);
        // a has a floor of 4: p's 2 and q's 2 are just so, r's 1 is too much
        on("two chairs in a", with(10, 0), true);
        int[] three = with(10, 0);
        three[19] = 0;
        on("three chairs in a", Check.sealed(three), false);
        int[] latest = with(3, 99999 >> 16);
        latest[4] = 99999 >> 8 & 255;
        latest[5] = 99999 & 255;
        on("clock 99999", Check.sealed(latest), true);
        latest[5]++;
        on("clock 100000", Check.sealed(latest), false);
        int[] ache = with(6, 99999 >> 16);
        ache[7] = 99999 >> 8 & 255;
        ache[8] = 99999 & 255;
        on("ache 99999", Check.sealed(ache), true);
        ache[8]++;
        on("ache 100000", Check.sealed(ache), false);
        on("clock of 255 thousands", with(3, 255), false);
        // doors do not matter where a chair is
        OwnChair x = Check.made("room a door 9 floor 9;room b door 1 floor 9;person p strong 1 chair 1 wide 5 at a;");
        int[] image = Check.image(x);
        image[1] = 1;
        Check.due("behind a narrow door", Check.on(x, Check.sealed(image)), true);
        Check.due("it is there", x.person(0, 1), 1);
    }

    private static void refusals() {
        OwnChair x = new OwnChair();
        Check.due("on with nothing", x.on(), false);
        Check.due("status(5)", x.status(5), 1);
        Check.due("a wrong seal of nobody", Check.on(x, 112), false);
        Check.due("nobody", Check.on(x, 113), true);
        Check.due("status(5)", x.status(5), 2);
    }

    /** Each kind is counted for itself, and nothing but a refusal is counted. */
    private static void status() {
        OwnChair x = Check.made(TOWN);
        for (int what = 0; what < 6; what++) {
            Check.due("status(" + what + ")", x.status(what), 0);
        }
        x.end(-1);
        x.end(1);
        for (int i = 0; i < 81; i++) {
            x.feed(0, 0, 0, 0, 0);
        }
        due(x, 3, 0, 0, 0, 0, 0);
        x.town();
        due(x, 3, 1, 0, 0, 0, 0);
        x.go(0, 0, -1);
        x.stay(0, 0);
        due(x, 3, 1, 2, 0, 0, 0);
        x.mend(0, 0);
        x.days(0);
        due(x, 3, 1, 2, 2, 0, 0);
        x.undo();
        due(x, 3, 1, 2, 2, 1, 0);
        x.seed(-1);
        x.errand(0);
        x.standing();
        x.on();
        due(x, 3, 1, 2, 2, 1, 4);
        x.fault(9);
        x.has(99);
        x.letter(9, 9, 9);
        x.room(9, 9);
        x.way(9, 9);
        x.person(9, 9);
        x.fits(9, 9);
        x.takes(9, 9, 9);
        x.kept(99, 9);
        x.route(9, 9, 9, 9);
        x.bearer(9, 9, 9);
        x.along(99);
        x.seated(9, 999);
        x.where(9, 9);
        x.octet(999);
        x.status(99);
        due(x, 3, 1, 2, 2, 1, 4);
        Check.town(x, TOWN);
        due(x, 3, 1, 2, 2, 1, 4);
        Check.due("status(6)", x.status(6), -1);
        Check.due("status(-1)", x.status(-1), -1);
        Check.due("status(least)", x.status(Integer.MIN_VALUE), -1);
        Check.due("status(most)", x.status(Integer.MAX_VALUE), -1);
    }

    private static void due(OwnChair x, int... counts) {
        for (int what = 0; what < 6; what++) {
            Check.due("status(" + what + ")", x.status(what), counts[what]);
        }
    }
}
