import java.util.Random;

/** All promises: runs of calls by a seed, each answered by the class as by the plain model of the document. */
public final class ModelTest {
    private static final int MOST_TRIED = 300000;

    private final OwnChair x = new OwnChair();
    private final Model model = new Model();
    private final Random random;
    private final RandomTown towns;
    private final String told;

    private ModelTest(long seed, int mostRooms, int mostPeople) {
        random = new Random(seed);
        towns = new RandomTown(random, mostRooms, mostPeople);
        told = "seed " + seed + " ";
    }

    public static void main(String[] args) {
        int runs = args.length > 0 ? Integer.parseInt(args[0]) : 400;
        for (int seed = 0; seed < runs; seed++) {
            ModelTest test = new ModelTest(seed, 2 + seed % 7, 1 + seed / 7 % 8);
            test.town(test.towns.text());
            for (int i = 0; i < 150; i++) {
                test.call();
            }
            test.look();
        }
        Check.finish();
    }

    private void due(String call, long got, long want) {
        Check.due(told + call, got, want);
    }

    private void due(String call, boolean got, boolean want) {
        Check.due(told + call, got, want);
    }

    /** Mostly a number below many, now and then one that is none. */
    private int some(int many) {
        int[] odd = {-1, many, -2, Integer.MIN_VALUE, Integer.MAX_VALUE, 8, 9, 7};
        return many == 0 || random.nextInt(20) == 0 ? odd[random.nextInt(odd.length)] : random.nextInt(many);
    }

    private int room() {
        return some(model.rooms());
    }

    private int person() {
        return some(model.people());
    }

    private void tape(int... bytes) {
        due("end(0)", x.end(0), model.end(0));
        for (int i = 0; i < bytes.length; i += 20) {
            int[] n = new int[5];
            for (int k = 0; k < 20; k++) {
                n[k / 4] = n[k / 4] << 8 | (i + k < bytes.length ? bytes[i + k] & 255 : 0);
            }
            due("feed", x.feed(n[0], n[1], n[2], n[3], n[4]), model.feed(n[0], n[1], n[2], n[3], n[4]));
        }
        due("end", x.end(bytes.length), model.end(bytes.length));
    }

    private void town(String text) {
        int[] bytes = new int[text.length()];
        for (int i = 0; i < bytes.length; i++) {
            bytes[i] = text.charAt(i);
        }
        tape(bytes);
        due("town of " + text, x.town(), model.town());
        due("fault(0) of " + text, x.fault(0), model.fault(0));
        due("fault(1) of " + text, x.fault(1), model.fault(1));
    }

    private void call() {
        int kind = random.nextInt(100);
        if (kind < 45) {
            act(random.nextInt(10));
        } else if (kind < 97) {
            ask(random.nextInt(9));
        } else if (kind == 97) {
            town(random.nextBoolean() ? towns.text() : towns.spoiled());
        } else {
            odd(random.nextInt(6));
        }
    }

    private void act(int kind) {
        int p = person();
        int r = room();
        int c = random.nextBoolean() ? p : random.nextInt(3) == 0 ? -1 : person();
        int n = random.nextInt(9) == 0 ? some(1000) : random.nextInt(30);
        switch (kind) {
            case 0: case 1: case 2: case 3: case 4:
                due("takes(" + p + "," + r + "," + c + ")", x.takes(p, r, c), model.takes(p, r, c));
                due("go(" + p + "," + r + "," + c + ")", x.go(p, r, c), model.go(p, r, c));
                break;
            case 5: due("stay(" + p + "," + n + ")", x.stay(p, n), model.stay(p, n)); break;
            case 6: mendAll(); break;
            case 7: due("days(" + n % 6 + ")", x.days(n % 6), model.days(n % 6)); break;
            case 8: due("undo()", x.undo(), model.undo()); break;
            default: due("days(" + n + ")", x.days(n), model.days(n)); break;
        }
    }

    private void mendAll() {
        int p = person();
        for (int c = -1; c <= model.people(); c++) {
            due("mend(" + p + "," + c + ")", x.mend(p, c), model.mend(p, c));
        }
    }

    private void ask(int kind) {
        int p = person();
        int r = room();
        int c = random.nextBoolean() ? p : person();
        switch (kind) {
            case 0: case 1: route(p, c, r); break;
            case 2: bearer(c, r); break;
            case 3: case 4: errand(p); break;
            case 5: seated(r); break;
            case 6: standing(); break;
            case 7: image(); break;
            default: lookAtOne(p, r, c); break;
        }
    }

    private void route(int p, int c, int r) {
        for (int k = -2; k < 9; k++) {
            due("route(" + p + "," + c + "," + r + "," + k + ")", x.route(p, c, r, k), model.route(p, c, r, k));
        }
    }

    private void bearer(int c, int r) {
        for (int k = -2; k < 9; k++) {
            due("bearer(" + c + "," + r + "," + k + ")", x.bearer(c, r, k), model.bearer(c, r, k));
        }
    }

    private void errand(int p) {
        int rows = random.nextInt(15) == 0 ? random.nextInt(15) : 1 + random.nextInt(7);
        int[] bytes = new int[2 * rows + (random.nextInt(30) == 0 ? 1 : 0)];
        int at = model.person(p, 0);
        for (int k = 0; k + 1 < bytes.length; k += 2) {
            at = neighbour(at);
            bytes[k] = at;
            bytes[k + 1] = random.nextInt(40) == 0 ? 2 : random.nextInt(3) == 0 ? 1 : 0;
        }
        tape(bytes);
        due("errand(" + p + ")", x.errand(p), model.errand(p));
        for (int k = -1; k < 13; k++) {
            due("along(" + k + ")", x.along(k), model.along(k));
        }
    }

    private int neighbour(int from) {
        for (int i = 0; i < 30; i++) {
            int to = random.nextInt(8);
            if (model.way(from, to) > 0) {
                return to;
            }
        }
        return random.nextInt(256);
    }

    private void seated(int r) {
        int people = some(1 << model.people());
        due("seated(" + r + "," + people + ")", x.seated(r, people), model.seated(r, people));
        int all = (1 << model.people()) - 1;
        due("seated(" + r + ", all)", x.seated(r, all), model.seated(r, all));
    }

    private void standing() {
        if (Math.pow(model.rooms(), model.people()) > MOST_TRIED) {
            return;
        }
        int rows = random.nextInt(20) == 0 ? random.nextInt(10) : 1 + random.nextInt(3);
        int[] bytes = new int[2 * rows + (random.nextInt(30) == 0 ? 1 : 0)];
        for (int k = 0; k + 1 < bytes.length; k += 2) {
            bytes[k] = random.nextInt(model.rooms() + (random.nextInt(9) == 0 ? 1 : 0) + (model.rooms() == 0 ? 1 : 0));
            bytes[k + 1] = random.nextInt(30) == 0 ? 255 : random.nextInt(4);
        }
        tape(bytes);
        due("standing()", x.standing(), model.standing());
        for (int p = -1; p <= model.people(); p++) {
            for (int r = -1; r <= model.rooms(); r++) {
                due("where(" + p + "," + r + ")", x.where(p, r), model.where(p, r));
            }
        }
    }

    private void image() {
        due("image()", x.image(), model.image());
        int[] bytes = new int[model.people() * 9 + 1];
        for (int k = -1; k <= bytes.length; k++) {
            due("octet(" + k + ")", x.octet(k), model.octet(k));
            if (k >= 0 && k < bytes.length) {
                bytes[k] = model.octet(k);
            }
        }
        if (random.nextInt(3) == 0) {
            return;
        }
        for (int i = random.nextInt(3); i > 0; i--) {
            int k = random.nextInt(bytes.length);
            int[] odd = {0, 1, 2, 3, 7, 8, 134, 159, 160, 255};
            bytes[k] = k % 9 < 2 ? random.nextInt(model.rooms() + 2) : odd[random.nextInt(odd.length)];
        }
        tape(random.nextInt(9) == 0 ? bytes : Check.sealed(bytes));
        due("on()", x.on(), model.on());
    }

    private void lookAtOne(int p, int r, int c) {
        for (int what = -1; what <= 11; what++) {
            due("has(" + what + ")", x.has(what), model.has(what));
            due("person(" + p + "," + what + ")", x.person(p, what), model.person(p, what));
            due("room(" + r + "," + what + ")", x.room(r, what), model.room(r, what));
            due("kept(" + (what * 4 - 1) + ",3)", x.kept(what * 4 - 1, 3), model.kept(what * 4 - 1, 3));
        }
        due("fits(" + c + "," + r + ")", x.fits(c, r), model.fits(c, r));
    }

    private void odd(int kind) {
        switch (kind) {
            case 0: due("seed", x.seed(-1 - random.nextInt(9)), model.seed(-1)); break;
            case 1: case 2: {
                int seed = random.nextInt() >>> 1;
                due("seed(" + seed + ")", x.seed(seed), model.seed(seed));
                break;
            }
            case 3: due("end(-1)", x.end(-1), model.end(-1)); break;
            case 4: due("errand()", x.errand(0), model.errand(0)); break;
            default: due("standing()", x.standing(), model.standing()); break;
        }
    }

    private void look() {
        for (int p = -1; p <= 8; p++) {
            for (int what = -1; what <= 11; what++) {
                due("person(" + p + "," + what + ")", x.person(p, what), model.person(p, what));
                due("room(" + p + "," + what + ")", x.room(p, what), model.room(p, what));
            }
            for (int r = -1; r <= 8; r++) {
                due("fits(" + p + "," + r + ")", x.fits(p, r), model.fits(p, r));
                due("way(" + p + "," + r + ")", x.way(p, r), model.way(p, r));
                due("letter(0," + p + "," + r + ")", x.letter(0, p, r), model.letter(0, p, r));
                due("letter(1," + p + "," + r + ")", x.letter(1, p, r), model.letter(1, p, r));
            }
        }
        for (int k = -1; k <= 41; k++) {
            for (int what = -1; what <= 4; what++) {
                due("kept(" + k + "," + what + ")", x.kept(k, what), model.kept(k, what));
            }
        }
        for (int what = -1; what <= 11; what++) {
            due("has(" + what + ")", x.has(what), model.has(what));
            due("status(" + what + ")", x.status(what), model.status(what));
        }
    }
}
