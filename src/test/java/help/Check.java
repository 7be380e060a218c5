import java.nio.charset.StandardCharsets;

/** What every test needs: counting wrong answers, and putting bytes on an object's tape. */
final class Check {
    private static int wrong = 0;
    private static int asked = 0;
    private static String about = "";

    private Check() {
    }

    static void due(String call, long got, long want) {
        asked++;
        if (got != want) {
            wrong++;
            if (wrong <= 40) {
                System.out.println(about + call + " answered " + got + ", due is " + want);
            }
        }
    }

    /** The document's own words that the answers from here on are held against. */
    static void sentence(String words) {
        about = "'" + words + "': ";
    }

    static void due(String call, boolean got, boolean want) {
        due(call, got ? 1 : 0, want ? 1 : 0);
    }

    static void finish() {
        System.out.println(asked + " answers, " + wrong + " wrong");
        System.exit(wrong == 0 ? 0 : 1);
    }

    static int wrongSoFar() {
        return wrong;
    }

    /** Puts these bytes alone on the tape. */
    static void tape(OwnChair x, int... bytes) {
        x.end(0);
        for (int i = 0; i < bytes.length; i += 20) {
            int[] numbers = new int[5];
            for (int k = 0; k < 20; k++) {
                int octet = i + k < bytes.length ? bytes[i + k] & 255 : 0;
                numbers[k / 4] = numbers[k / 4] << 8 | octet;
            }
            x.feed(numbers[0], numbers[1], numbers[2], numbers[3], numbers[4]);
        }
        x.end(bytes.length);
    }

    static void tape(OwnChair x, String text) {
        byte[] bytes = text.getBytes(StandardCharsets.ISO_8859_1);
        int[] numbers = new int[bytes.length];
        for (int i = 0; i < bytes.length; i++) {
            numbers[i] = bytes[i] & 255;
        }
        tape(x, numbers);
    }

    static int town(OwnChair x, String text) {
        tape(x, text);
        return x.town();
    }

    static OwnChair made(String text) {
        OwnChair x = new OwnChair();
        if (town(x, text) < 0) {
            due("town of " + text + " fault " + x.fault(0) + " at " + x.fault(1), -1, 0);
        }
        return x;
    }

    /** A text with this fault at this place, all staying. */
    static void fault(String text, int kind, int place) {
        OwnChair x = new OwnChair();
        due("town of '" + text + "'", town(x, text), OwnChair.NONE);
        due("fault(0) of '" + text + "'", x.fault(0), kind);
        due("fault(1) of '" + text + "'", x.fault(1), place);
        due("status(1) of '" + text + "'", x.status(1), 1);
        due("has(0) of '" + text + "'", x.has(0), 0);
    }

    /** A text with a fault where ^ stands, which is itself no part of the text. */
    static void faultAt(int kind, String text) {
        int place = text.indexOf('^');
        fault(text.substring(0, place) + text.substring(place + 1), kind, place);
    }

    /** A text without a fault. */
    static void good(String text, int statements) {
        OwnChair x = new OwnChair();
        due("town of '" + text + "'", town(x, text), statements);
        due("fault(0) of '" + text + "'", x.fault(0), 0);
        due("fault(1) of '" + text + "'", x.fault(1), OwnChair.NONE);
        due("status(1) of '" + text + "'", x.status(1), 0);
    }

    static int errand(OwnChair x, int person, int... rows) {
        tape(x, rows);
        return x.errand(person);
    }

    static int standing(OwnChair x, int... rows) {
        tape(x, rows);
        return x.standing();
    }

    static boolean on(OwnChair x, int... bytes) {
        tape(x, bytes);
        return x.on();
    }

    static int[] image(OwnChair x) {
        int[] bytes = new int[x.image()];
        for (int k = 0; k < bytes.length; k++) {
            bytes[k] = x.octet(k);
        }
        return bytes;
    }

    /** Ends an image with the byte that is due behind the others. */
    static int[] sealed(int... bytes) {
        int c = 113;
        for (int k = 0; k + 1 < bytes.length; k++) {
            c = (5 * c + bytes[k]) % 251;
        }
        bytes[bytes.length - 1] = c;
        return bytes;
    }
}
