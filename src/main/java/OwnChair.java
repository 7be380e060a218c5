import java.util.Arrays;

/**
 * Each on his own chair: rooms, ways, people with chairs, told as a text on a tape.
 *
 * The face only looks at arguments, counts refusals and hands on; the classes inside do the work.
 * Every row is made once, with the object, because all objects of a run share one small room.
 */
public final class OwnChair {
    public static final int NONE = -1;

    private static final int MOST_ROOMS = 8;
    private static final int MOST_PEOPLE = 8;
    private static final int MOST_BYTES = 1600;
    private static final int MOST_STATEMENTS = 80;
    private static final int MOST_OPEN = 7;
    private static final int MOST_KEPT = 40;
    private static final int MOST_ACTS = 20;
    private static final int MOST_WAYS = 12;
    private static final int MOST_CLOCK = 99999;
    private static final int MOST_EXTRA = 999;
    private static final int MOST_WORTH = 1000000;
    private static final int MENDING = 30;
    private static final int DAY_WAIT = 10;
    private static final int PERSON_BYTES = 9;
    private static final int FAR = 1000000000;

    private final Tape tape = new Tape();
    private final TownReader reader = new TownReader();
    private final Scene scene = new Scene();
    private final History history = new History();
    private final Paths paths = new Paths();
    private final Errand plan = new Errand();
    private final Seating seating = new Seating();
    private final int[] refused = new int[6];
    private final int[] picture = new int[MOST_PEOPLE * PERSON_BYTES + 1];
    private int pictureLength = 0;
    private int faultKind = 0;
    private int faultPlace = NONE;
    private int chance = 1;

    public OwnChair() {
    }

    public int feed(int a, int b, int c, int d, int e) {
        if (tape.length + 20 > MOST_BYTES) {
            return refuse(0);
        }
        tape.append(a);
        tape.append(b);
        tape.append(c);
        tape.append(d);
        tape.append(e);
        return tape.length;
    }

    public boolean end(int n) {
        if (n < 0 || n > tape.length) {
            refuse(0);
            return false;
        }
        tape.length = n;
        return true;
    }

    public int town() {
        int statements = reader.read(tape, scene.draft);
        tape.length = 0;
        faultKind = reader.lexer.fault;
        faultPlace = faultKind == 0 ? NONE : reader.lexer.faultPlace;
        if (statements == NONE) {
            return refuse(1);
        }
        scene.takeDraft();
        history.count = 0;
        plan.ways = 0;
        seating.told = false;
        return statements;
    }

    public int fault(int what) {
        if (what == 0) {
            return faultKind;
        }
        return what == 1 ? faultPlace : NONE;
    }

    public int has(int what) {
        switch (what) {
            case 0: return scene.town.rooms;
            case 1: return scene.town.people;
            case 2: return scene.town.breaks;
            case 3: return scene.town.carpenter;
            case 4: return scene.sitting();
            case 5: return scene.brokenChairs();
            case 6: return scene.latestClock();
            case 7: return scene.allAches();
            case 8: return scene.keptCount();
            case 9: return history.count;
            case 10: return chance;
            default: return NONE;
        }
    }

    public int letter(int kind, int which, int k) {
        if (k < 0 || k > 5) {
            return NONE;
        }
        if (kind == 0 && scene.town.isRoom(which)) {
            return letterOf(scene.town.roomName[which], k);
        }
        if (kind == 1 && scene.town.isPerson(which)) {
            return letterOf(scene.town.personName[which], k);
        }
        return NONE;
    }

    public int room(int room, int what) {
        if (!scene.town.isRoom(room)) {
            return NONE;
        }
        switch (what) {
            case 0: return scene.town.door[room];
            case 1: return scene.town.floor[room];
            case 2: return scene.load(room, NONE);
            case 3: return scene.peopleIn(room);
            case 4: return scene.chairsIn(room);
            case 5: return scene.sittingIn(room);
            default: return NONE;
        }
    }

    public int way(int from, int to) {
        int minutes = scene.town.wayMinutes(from, to);
        return minutes > 0 ? minutes : NONE;
    }

    public int person(int person, int what) {
        if (!scene.town.isPerson(person)) {
            return NONE;
        }
        switch (what) {
            case 0: return scene.roomOf(person);
            case 1: return scene.chairRoom(person);
            case 2: return scene.isBroken(person) ? 1 : 0;
            case 3: return scene.sits(person) ? 1 : 0;
            case 4: return scene.clockOf(person);
            case 5: return scene.acheOf(person);
            case 6: return scene.town.partner[person];
            case 7: return scene.town.strong[person];
            case 8: return scene.town.weight[person];
            case 9: return scene.town.width[person];
            case 10: return scene.town.doorWidth(person);
            default: return NONE;
        }
    }

    public int fits(int chair, int room) {
        if (!scene.town.isPerson(chair) || !scene.town.isRoom(room) || scene.chairRoom(chair) == room) {
            return NONE;
        }
        return scene.admits(room, chair) ? 1 : 0;
    }

    public int takes(int person, int room, int chair) {
        return scene.goingMinutes(person, room, chair);
    }

    public int go(int person, int room, int chair) {
        int minutes = scene.goingMinutes(person, room, chair);
        if (minutes == NONE) {
            return refuse(2);
        }
        history.remember(scene.cells);
        move(person, room, chair, minutes);
        return scene.clockOf(person);
    }

    public int stay(int person, int n) {
        if (!scene.town.isPerson(person) || n < 1 || n > 999) {
            return refuse(2);
        }
        history.remember(scene.cells);
        scene.spendWaiting(person, n);
        return scene.acheOf(person);
    }

    public boolean mend(int person, int chair) {
        if (!scene.canMend(person, chair)) {
            refuse(3);
            return false;
        }
        history.remember(scene.cells);
        scene.makeWhole(person, chair);
        return true;
    }

    public int days(int n) {
        if (n < 1 || n > 30) {
            return refuse(3);
        }
        history.remember(scene.cells);
        int carried = 0;
        for (int day = 0; day < n; day++) {
            for (int person = 0; person < scene.town.people; person++) {
                carried += liveDay(person);
            }
        }
        return carried;
    }

    public boolean undo() {
        if (history.count == 0) {
            refuse(4);
            return false;
        }
        history.takeBack(scene.cells);
        return true;
    }

    public boolean seed(int seed) {
        if (seed < 0) {
            refuse(5);
            return false;
        }
        chance = seed;
        return true;
    }

    public int kept(int k, int what) {
        return scene.keptPart(k, what);
    }

    public int route(int person, int chair, int room, int k) {
        if (!scene.town.isPerson(person) || !canTravel(chair, room)) {
            return NONE;
        }
        paths.layRoute(scene, person, chair);
        paths.find(scene.town.rooms, scene.chairRoom(chair), room);
        return k == NONE ? paths.minutes : paths.roomAt(k);
    }

    public int bearer(int chair, int room, int k) {
        if (!canTravel(chair, room)) {
            return NONE;
        }
        paths.layBearers(scene, chair);
        paths.find(scene.town.rooms, scene.chairRoom(chair), room);
        return k == NONE ? paths.minutes : paths.bearerAt(k);
    }

    public int errand(int person) {
        boolean isErrand = plan.isTold(scene, tape, person);
        int minutes = isErrand ? plan.settle(scene, tape, person) : refuse(5);
        tape.length = 0;
        return minutes;
    }

    public int along(int k) {
        return k >= 0 && k < plan.ways ? plan.taken[k] : NONE;
    }

    public int seated(int room, int people) {
        if (!scene.town.isRoom(room) || people < 0 || people >= 1 << scene.town.people) {
            return NONE;
        }
        return seating.mostSeated(scene, room, people);
    }

    public int standing() {
        boolean isStanding = seating.isTold(scene.town, tape);
        int ways = isStanding ? seating.countWays(scene) : refuse(5);
        tape.length = 0;
        return ways;
    }

    public int where(int person, int room) {
        if (!seating.told || !scene.town.isPerson(person) || !scene.town.isRoom(room)) {
            return NONE;
        }
        return seating.waysIn[person * MOST_ROOMS + room];
    }

    public int image() {
        pictureLength = scene.draw(picture);
        return pictureLength;
    }

    public int octet(int k) {
        return k >= 0 && k < pictureLength ? picture[k] : NONE;
    }

    public boolean on() {
        boolean isImage = scene.isImage(tape);
        if (isImage) {
            scene.takeImage(tape);
            history.count = 0;
        } else {
            refuse(5);
        }
        tape.length = 0;
        return isImage;
    }

    public int status(int what) {
        return what >= 0 && what < refused.length ? refused[what] : NONE;
    }

    private int refuse(int kind) {
        if (kind >= 0 && kind < refused.length) {
            refused[kind]++;
        }
        return NONE;
    }

    private static int letterOf(int name, int k) {
        return (name >> (25 - 5 * k)) & 31;
    }

    /** A broken chair goes nowhere, and is no route even to where it stands. */
    private boolean canTravel(int chair, int room) {
        return scene.town.isPerson(chair) && scene.town.isRoom(room) && !scene.isBroken(chair);
    }

    private int chanceOf(int many) {
        chance = (int) ((1103515245L * chance + 12345L) & 2147483647L);
        return many > 0 ? chance / 64 % many : 0;
    }

    private void move(int person, int room, int chair, int minutes) {
        scene.walk(person, room, minutes);
        if (chair == NONE) {
            return;
        }
        scene.carry(person, room, chair, minutes);
        if (scene.town.breaks > 0 && chanceOf(100) < scene.town.breaks) {
            scene.spoil(chair);
        }
    }

    /** How many chairs one carries on his day: 1 or 0. */
    private int liveDay(int person) {
        int choice = chanceOf(3);
        if (choice == 2) {
            scene.spendWaiting(person, DAY_WAIT);
        }
        int from = scene.roomOf(person);
        int many = scene.town.neighbours(from);
        if (choice != 1 || many == 0) {
            return 0;
        }
        int to = scene.town.neighbour(from, chanceOf(many));
        int chair = scene.canCarry(person, to, person) ? person : NONE;
        move(person, to, chair, scene.goingMinutes(person, to, chair));
        return chair == NONE ? 0 : 1;
    }

    /** The bytes that were fed and not yet used. */
    private static final class Tape {
        final int[] bytes = new int[MOST_BYTES];
        int length = 0;

        void append(int number) {
            for (int shift = 24; shift >= 0 && length < bytes.length; shift -= 8) {
                bytes[length] = (number >>> shift) & 255;
                length++;
            }
        }
    }

    /**
     * The text's words, numbers and signs, one at a time. The next one is looked at only when the
     * one ahead of it has been judged: so the first fault along the text is the one that is found.
     */
    private static final class Lexer {
        static final int END = 0;
        static final int WORD = 1;
        static final int NAME = 2;
        static final int NUMBER = 3;
        static final int SIGN = 4;
        static final int BAD = 5;

        static final int AT = ('a' & 31) << 25 | ('t' & 31) << 20;
        static final int IF = ('i' & 31) << 25 | ('f' & 31) << 20;
        static final int OR = ('o' & 31) << 25 | ('r' & 31) << 20;
        static final int WAY = ('w' & 31) << 25 | ('a' & 31) << 20 | ('y' & 31) << 15;
        static final int OWN = ('o' & 31) << 25 | ('w' & 31) << 20 | ('n' & 31) << 15;
        static final int AND = ('a' & 31) << 25 | ('n' & 31) << 20 | ('d' & 31) << 15;
        static final int NOT = ('n' & 31) << 25 | ('o' & 31) << 20 | ('t' & 31) << 15;
        static final int ALL = ('a' & 31) << 25 | ('l' & 31) << 20 | ('l' & 31) << 15;
        static final int MIN = ('m' & 31) << 25 | ('i' & 31) << 20 | ('n' & 31) << 15;
        static final int MAX = ('m' & 31) << 25 | ('a' & 31) << 20 | ('x' & 31) << 15;
        static final int ROOM = ('r' & 31) << 25 | ('o' & 31) << 20 | ('o' & 31) << 15 | ('m' & 31) << 10;
        static final int DOOR = ('d' & 31) << 25 | ('o' & 31) << 20 | ('o' & 31) << 15 | ('r' & 31) << 10;
        static final int WIDE = ('w' & 31) << 25 | ('i' & 31) << 20 | ('d' & 31) << 15 | ('e' & 31) << 10;
        static final int SLOW = ('s' & 31) << 25 | ('l' & 31) << 20 | ('o' & 31) << 15 | ('w' & 31) << 10;
        static final int FLOOR = ('f' & 31) << 25 | ('l' & 31) << 20 | ('o' & 31) << 15 | ('o' & 31) << 10
            | ('r' & 31) << 5;
        static final int TAKES = ('t' & 31) << 25 | ('a' & 31) << 20 | ('k' & 31) << 15 | ('e' & 31) << 10
            | ('s' & 31) << 5;
        static final int CHAIR = ('c' & 31) << 25 | ('h' & 31) << 20 | ('a' & 31) << 15 | ('i' & 31) << 10
            | ('r' & 31) << 5;
        static final int CLOCK = ('c' & 31) << 25 | ('l' & 31) << 20 | ('o' & 31) << 15 | ('c' & 31) << 10
            | ('k' & 31) << 5;
        static final int PERSON = ('p' & 31) << 25 | ('e' & 31) << 20 | ('r' & 31) << 15 | ('s' & 31) << 10
            | ('o' & 31) << 5 | 'n' & 31;
        static final int STRONG = ('s' & 31) << 25 | ('t' & 31) << 20 | ('r' & 31) << 15 | ('o' & 31) << 10
            | ('n' & 31) << 5 | 'g' & 31;
        static final int JOINED = ('j' & 31) << 25 | ('o' & 31) << 20 | ('i' & 31) << 15 | ('n' & 31) << 10
            | ('e' & 31) << 5 | 'd' & 31;
        static final int STANDS = ('s' & 31) << 25 | ('t' & 31) << 20 | ('a' & 31) << 15 | ('n' & 31) << 10
            | ('d' & 31) << 5 | 's' & 31;
        static final int BREAKS = ('b' & 31) << 25 | ('r' & 31) << 20 | ('e' & 31) << 15 | ('a' & 31) << 10
            | ('k' & 31) << 5 | 's' & 31;
        static final int WEIGHT = ('w' & 31) << 25 | ('e' & 31) << 20 | ('i' & 31) << 15 | ('g' & 31) << 10
            | ('h' & 31) << 5 | 't' & 31;
        /** Nine letters have no place in 30 bits; no packed word is so small a number. */
        static final int CARPENTER = 1;
        static final long CARPENTER_LETTERS = ('c' & 31L) << 40 | ('a' & 31L) << 35 | ('r' & 31L) << 30
            | ('p' & 31L) << 25 | ('e' & 31L) << 20 | ('n' & 31L) << 15 | ('t' & 31L) << 10
            | ('e' & 31L) << 5 | 'r' & 31L;

        int[] text = new int[0];
        int length = 0;
        int place = 0;
        int kind = END;
        int value = 0;
        int start = 0;
        int fault = 0;
        int faultPlace = 0;

        void begin(Tape tape) {
            text = tape.bytes;
            length = Math.min(tape.length, tape.bytes.length);
            place = 0;
            kind = END;
            fault = 0;
        }

        /** Notes a fault, unless there is one already; false, so that a reader can end with it. */
        boolean fail(int newFault, int newPlace) {
            if (fault == 0) {
                fault = newFault;
                faultPlace = newPlace;
            }
            return false;
        }

        boolean unexpected() {
            return fail(1, start);
        }

        boolean isWord(int word) {
            return kind == WORD && value == word;
        }

        boolean isSign(char sign) {
            return kind == SIGN && value == sign;
        }

        boolean passSign(char sign) {
            if (!isSign(sign)) {
                return unexpected();
            }
            next();
            return true;
        }

        /** Whether nothing but blanks is left; the place is then the next token's first byte. */
        boolean atEnd() {
            while (place < length && (text[place] == 10 || text[place] == 32)) {
                place++;
            }
            return place >= length;
        }

        void next() {
            int behind = place;
            boolean needsBlank = kind == WORD || kind == NAME || kind == NUMBER;
            boolean ended = atEnd();
            start = place;
            if (ended) {
                kind = END;
                return;
            }
            boolean letter = isLetter(text[place]);
            if (!letter && !isDigit(text[place])) {
                kind = SIGN;
                value = text[place];
                place++;
            } else if (needsBlank && start == behind) {
                kind = BAD;
                unexpected();
            } else if (letter) {
                readWord();
            } else {
                readNumber();
            }
        }

        private void readWord() {
            long letters = 0;
            while (place < length && isLetter(text[place])) {
                letters = letters << 5 | text[place] & 31;
                place++;
            }
            int size = place - start;
            if (size == 9 && letters == CARPENTER_LETTERS) {
                kind = WORD;
                value = CARPENTER;
                return;
            }
            if (size > 6) {
                kind = BAD;
                fail(1, start + 6);
                return;
            }
            value = (int) (letters << 5 * (6 - size));
            kind = isOwnWord(value) ? WORD : NAME;
        }

        private void readNumber() {
            value = 0;
            kind = NUMBER;
            while (place < length && isDigit(text[place])) {
                if (place - start == 4) {
                    kind = BAD;
                    fail(1, place);
                    return;
                }
                value = value * 10 + text[place] - '0';
                place++;
            }
        }

        private static boolean isOwnWord(int word) {
            switch (word) {
                case AT: case IF: case OR:
                case WAY: case OWN: case AND: case NOT: case ALL: case MIN: case MAX:
                case ROOM: case DOOR: case WIDE: case SLOW:
                case FLOOR: case TAKES: case CHAIR: case CLOCK:
                case PERSON: case STRONG: case JOINED: case STANDS: case BREAKS: case WEIGHT:
                    return true;
                default:
                    return false;
            }
        }

        private static boolean isLetter(int octet) {
            return octet >= 'a' && octet <= 'z';
        }

        private static boolean isDigit(int octet) {
            return octet >= '0' && octet <= '9';
        }
    }

    /**
     * Reads a SUM into a Formula. Every reader begins at its first token and leaves the lexer at
     * the token behind it; open tells how many ( [ not stand around it.
     */
    private static final class SumReader {
        final Lexer lexer = new Lexer();

        private boolean readSum(Formula out, int open) {
            if (!readProduct(out, open)) {
                return false;
            }
            for (int i = 0; i < MOST_BYTES && (lexer.isSign('+') || lexer.isSign('-')); i++) {
                int step = lexer.isSign('+') ? Formula.ADD : Formula.SUBTRACT;
                lexer.next();
                if (!readProduct(out, open)) {
                    return false;
                }
                out.add(step);
            }
            return true;
        }

        private boolean readProduct(Formula out, int open) {
            if (!readPart(out, open)) {
                return false;
            }
            for (int i = 0; i < MOST_BYTES && productStep() != 0; i++) {
                int step = productStep();
                lexer.next();
                if (!readPart(out, open)) {
                    return false;
                }
                out.add(step);
            }
            return true;
        }

        private int productStep() {
            if (lexer.isSign('*')) {
                return Formula.MULTIPLY;
            }
            if (lexer.isSign('/')) {
                return Formula.DIVIDE;
            }
            return lexer.isSign('%') ? Formula.REMAIN : 0;
        }

        private boolean readPart(Formula out, int open) {
            if (lexer.kind == Lexer.NUMBER) {
                return readSimple(out, lexer.value);
            }
            if (lexer.isSign('(')) {
                return opens('(', open) && readSum(out, open + 1) && lexer.passSign(')');
            }
            if (lexer.kind != Lexer.WORD) {
                return lexer.unexpected();
            }
            switch (lexer.value) {
                case Lexer.TAKES: return readSimple(out, Formula.TAKES);
                case Lexer.WEIGHT: return readSimple(out, Formula.WEIGHT);
                case Lexer.STRONG: return readSimple(out, Formula.STRONG);
                case Lexer.WIDE: return readSimple(out, Formula.WIDE);
                case Lexer.CLOCK: return readSimple(out, Formula.CLOCK);
                case Lexer.OWN: return readSimple(out, Formula.OWN);
                case Lexer.MIN: return readPair(out, open, Formula.LEAST);
                case Lexer.MAX: return readPair(out, open, Formula.MOST);
                case Lexer.IF: return readChoice(out, open);
                default: return lexer.unexpected();
            }
        }

        private boolean readSimple(Formula out, int step) {
            out.add(step);
            lexer.next();
            return true;
        }

        private boolean readPair(Formula out, int open, int step) {
            lexer.next();
            boolean whole = opens('(', open) && readSum(out, open + 1) && lexer.passSign(',')
                && readSum(out, open + 1) && lexer.passSign(')');
            out.add(step);
            return whole;
        }

        private boolean readChoice(Formula out, int open) {
            lexer.next();
            boolean whole = opens('(', open) && readTest(out, open + 1) && lexer.passSign(',')
                && readSum(out, open + 1) && lexer.passSign(',')
                && readSum(out, open + 1) && lexer.passSign(')');
            out.add(Formula.CHOOSE);
            return whole;
        }

        private boolean readTest(Formula out, int open) {
            if (!readBoth(out, open)) {
                return false;
            }
            for (int i = 0; i < MOST_BYTES && lexer.isWord(Lexer.OR); i++) {
                lexer.next();
                if (!readBoth(out, open)) {
                    return false;
                }
                out.add(Formula.EITHER);
            }
            return true;
        }

        private boolean readBoth(Formula out, int open) {
            if (!readFact(out, open)) {
                return false;
            }
            for (int i = 0; i < MOST_BYTES && lexer.isWord(Lexer.AND); i++) {
                lexer.next();
                if (!readFact(out, open)) {
                    return false;
                }
                out.add(Formula.BOTH);
            }
            return true;
        }

        private boolean readFact(Formula out, int open) {
            if (lexer.isWord(Lexer.NOT)) {
                return readDenial(out, open);
            }
            if (lexer.isSign('[')) {
                return opens('[', open) && readTest(out, open + 1) && lexer.passSign(']');
            }
            if (lexer.isWord(Lexer.ALL)) {
                return readSimple(out, 1);
            }
            return readSum(out, open) && readComparison(out, open);
        }

        private boolean readDenial(Formula out, int open) {
            if (open >= MOST_OPEN) {
                return lexer.fail(5, lexer.start);
            }
            lexer.next();
            boolean whole = readFact(out, open + 1);
            out.add(Formula.DENY);
            return whole;
        }

        private boolean readComparison(Formula out, int open) {
            int step = lexer.isSign('<') ? Formula.BELOW : lexer.isSign('>') ? Formula.ABOVE : Formula.SAME;
            if (step == Formula.SAME && !lexer.isSign('=')) {
                return lexer.unexpected();
            }
            lexer.next();
            boolean whole = readSum(out, open);
            out.add(step);
            return whole;
        }

        private boolean opens(char sign, int open) {
            if (!lexer.isSign(sign)) {
                return lexer.unexpected();
            }
            if (open >= MOST_OPEN) {
                return lexer.fail(5, lexer.start);
            }
            lexer.next();
            return true;
        }
    }

    /** Reads a whole text into a Town that nobody lives in yet. */
    private static final class TownReader {
        private final SumReader sums = new SumReader();
        final Lexer lexer = sums.lexer;
        private int number = 0;

        /** How many statements there are; NONE with a fault, which the lexer then knows. */
        int read(Tape tape, Town town) {
            town.clear();
            lexer.begin(tape);
            for (int statements = 0; statements <= MOST_STATEMENTS; statements++) {
                if (lexer.atEnd()) {
                    return statements;
                }
                if (statements == MOST_STATEMENTS) {
                    lexer.fail(6, lexer.place);
                    return NONE;
                }
                lexer.next();
                if (!readStatement(town)) {
                    return NONE;
                }
                if (!lexer.isSign(';')) {
                    lexer.unexpected();
                    return NONE;
                }
            }
            return NONE;
        }

        private boolean readStatement(Town town) {
            if (lexer.kind != Lexer.WORD) {
                return lexer.unexpected();
            }
            switch (lexer.value) {
                case Lexer.ROOM: return readRoom(town);
                case Lexer.WAY: return readWay(town);
                case Lexer.PERSON: return readPerson(town);
                case Lexer.JOINED: return readJoined(town);
                case Lexer.SLOW: return beginSum(town.slow) && sums.readSum(town.slow, 0);
                case Lexer.STANDS: return beginSum(town.stands) && sums.readSum(town.stands, 0);
                case Lexer.BREAKS: return readBreaks(town);
                case Lexer.CARPENTER: return readCarpenter(town);
                default: return lexer.unexpected();
            }
        }

        private boolean readRoom(Town town) {
            if (town.rooms >= MOST_ROOMS) {
                return lexer.fail(6, lexer.start);
            }
            lexer.next();
            int name = freshName(town);
            if (name == NONE) {
                return false;
            }
            lexer.next();
            if (!readNumber(Lexer.DOOR, 1, 9)) {
                return false;
            }
            int door = number;
            if (!readNumber(Lexer.FLOOR, 1, 99)) {
                return false;
            }
            town.addRoom(name, door, number);
            return true;
        }

        private boolean readWay(Town town) {
            lexer.next();
            int from = knownRoom(town);
            if (from == NONE) {
                return false;
            }
            lexer.next();
            int to = knownRoom(town);
            if (to == NONE) {
                return false;
            }
            if (to == from) {
                return lexer.fail(3, lexer.start);
            }
            lexer.next();
            if (!readNumber(Lexer.TAKES, 1, 60)) {
                return false;
            }
            town.addWay(from, to, number);
            return true;
        }

        private boolean readPerson(Town town) {
            if (town.people >= MOST_PEOPLE) {
                return lexer.fail(6, lexer.start);
            }
            lexer.next();
            int name = freshName(town);
            if (name == NONE) {
                return false;
            }
            lexer.next();
            if (!readNumber(Lexer.STRONG, 1, 99)) {
                return false;
            }
            int strong = number;
            if (!readNumber(Lexer.CHAIR, 1, 99)) {
                return false;
            }
            int weight = number;
            if (!readNumber(Lexer.WIDE, 1, 9)) {
                return false;
            }
            int width = number;
            int home = readHome(town, width);
            if (home == NONE) {
                return false;
            }
            town.addPerson(name, strong, weight, width, home);
            return true;
        }

        private int readHome(Town town, int width) {
            if (!lexer.isWord(Lexer.AT)) {
                lexer.unexpected();
                return NONE;
            }
            lexer.next();
            int home = knownRoom(town);
            if (home == NONE) {
                return NONE;
            }
            if (!town.houses(home, width)) {
                lexer.fail(3, lexer.start);
                return NONE;
            }
            lexer.next();
            return home;
        }

        private boolean readJoined(Town town) {
            lexer.next();
            int one = unjoinedPerson(town, NONE);
            if (one == NONE) {
                return false;
            }
            lexer.next();
            int other = unjoinedPerson(town, one);
            if (other == NONE) {
                return false;
            }
            lexer.next();
            town.join(one, other);
            return true;
        }

        private boolean beginSum(Formula formula) {
            if (formula.size > 0) {
                return lexer.fail(6, lexer.start);
            }
            lexer.next();
            return true;
        }

        private boolean readBreaks(Town town) {
            if (!readNumber(Lexer.BREAKS, 0, 100)) {
                return false;
            }
            town.breaks = number;
            return true;
        }

        private boolean readCarpenter(Town town) {
            lexer.next();
            int room = knownRoom(town);
            if (room == NONE) {
                return false;
            }
            lexer.next();
            town.carpenter = room;
            return true;
        }

        private boolean readNumber(int word, int least, int most) {
            if (!lexer.isWord(word)) {
                return lexer.unexpected();
            }
            lexer.next();
            if (lexer.kind != Lexer.NUMBER) {
                return lexer.unexpected();
            }
            if (lexer.value < least || lexer.value > most) {
                return lexer.fail(4, lexer.start);
            }
            number = lexer.value;
            lexer.next();
            return true;
        }

        private int freshName(Town town) {
            if (lexer.kind != Lexer.NAME) {
                lexer.unexpected();
                return NONE;
            }
            if (town.roomNamed(lexer.value) != NONE || town.personNamed(lexer.value) != NONE) {
                lexer.fail(2, lexer.start);
                return NONE;
            }
            return lexer.value;
        }

        private int knownRoom(Town town) {
            if (lexer.kind != Lexer.NAME) {
                lexer.unexpected();
                return NONE;
            }
            int room = town.roomNamed(lexer.value);
            if (room == NONE) {
                lexer.fail(3, lexer.start);
            }
            return room;
        }

        private int unjoinedPerson(Town town, int other) {
            if (lexer.kind != Lexer.NAME) {
                lexer.unexpected();
                return NONE;
            }
            int person = town.personNamed(lexer.value);
            if (person == NONE || person == other || town.partner[person] != NONE) {
                lexer.fail(3, lexer.start);
                return NONE;
            }
            return person;
        }
    }

    /**
     * A SUM in the order in which it is worked out: numbers from 0 up stand for themselves,
     * -1 to -6 for what is given, the others for steps with what came last.
     */
    private static final class Formula {
        static final int TAKES = -1;
        static final int WEIGHT = -2;
        static final int STRONG = -3;
        static final int WIDE = -4;
        static final int CLOCK = -5;
        static final int OWN = -6;
        static final int ADD = -7;
        static final int SUBTRACT = -8;
        static final int MULTIPLY = -9;
        static final int DIVIDE = -10;
        static final int REMAIN = -11;
        static final int LEAST = -12;
        static final int MOST = -13;
        static final int BELOW = -14;
        static final int ABOVE = -15;
        static final int SAME = -16;
        static final int BOTH = -17;
        static final int EITHER = -18;
        static final int DENY = -19;
        static final int CHOOSE = -20;
        static final int GIVEN = 6;

        /** Seven open at once, each with five unfinished steps at most, need fewer than 48. */
        private final int[] stack = new int[64];
        private int[] steps = new int[32];
        int size = 0;

        void add(int step) {
            if (size >= steps.length) {
                steps = Arrays.copyOf(steps, size + size);
            }
            steps[size] = step;
            size++;
        }

        /** What the sum is worth as minutes or ache: 0 to 999, whatever it is. */
        int extra(int[] given) {
            int top = 0;
            for (int i = 0; i < size && i < steps.length; i++) {
                int operands = operandsOf(steps[i]);
                if (top < operands || top - operands >= stack.length) {
                    return 0;
                }
                top -= operands;
                if (operands == 0) {
                    stack[top] = steps[i] >= 0 ? steps[i] : given[-1 - steps[i]];
                } else if (operands == 1) {
                    stack[top] = stack[top] == 0 ? 1 : 0;
                } else if (operands == 2) {
                    stack[top] = combine(steps[i], stack[top], stack[top + 1]);
                } else {
                    stack[top] = stack[top] != 0 ? stack[top + 1] : stack[top + 2];
                }
                top++;
            }
            return top > 0 ? Math.max(0, Math.min(MOST_EXTRA, stack[top - 1])) : 0;
        }

        private static int operandsOf(int step) {
            if (step >= -GIVEN) {
                return 0;
            }
            if (step == CHOOSE) {
                return 3;
            }
            return step == DENY ? 1 : 2;
        }

        private static int combine(int step, int a, int b) {
            switch (step) {
                case ADD: return limit((long) a + b);
                case SUBTRACT: return limit((long) a - b);
                case MULTIPLY: return limit((long) a * b);
                case DIVIDE: return b == 0 ? 0 : limit(Math.floorDiv((long) a, (long) b));
                case REMAIN: return b == 0 ? 0 : Math.floorMod(a, b);
                case LEAST: return Math.min(a, b);
                case MOST: return Math.max(a, b);
                case BELOW: return a < b ? 1 : 0;
                case ABOVE: return a > b ? 1 : 0;
                case SAME: return a == b ? 1 : 0;
                case BOTH: return a & b;
                case EITHER: return a | b;
                default: return 0;
            }
        }

        private static int limit(long worth) {
            return (int) Math.max(-MOST_WORTH, Math.min(MOST_WORTH, worth));
        }
    }

    /** What a text tells and no act changes. */
    private static final class Town {
        int rooms = 0;
        int people = 0;
        int breaks = 0;
        int carpenter = NONE;
        final int[] roomName = new int[MOST_ROOMS];
        final int[] door = new int[MOST_ROOMS];
        final int[] floor = new int[MOST_ROOMS];
        /** From room times eight and to room; 0 without a way. */
        final int[] minutes = new int[MOST_ROOMS * MOST_ROOMS];
        final int[] personName = new int[MOST_PEOPLE];
        final int[] strong = new int[MOST_PEOPLE];
        final int[] weight = new int[MOST_PEOPLE];
        final int[] width = new int[MOST_PEOPLE];
        final int[] partner = new int[MOST_PEOPLE];
        final int[] home = new int[MOST_PEOPLE];
        final Formula slow = new Formula();
        final Formula stands = new Formula();

        void clear() {
            rooms = 0;
            people = 0;
            breaks = 0;
            carpenter = NONE;
            Arrays.fill(minutes, 0);
            slow.size = 0;
            stands.size = 0;
        }

        boolean isRoom(int room) {
            return room >= 0 && room < rooms;
        }

        boolean isPerson(int person) {
            return person >= 0 && person < people;
        }

        int roomNamed(int name) {
            return indexOf(roomName, rooms, name);
        }

        int personNamed(int name) {
            return indexOf(personName, people, name);
        }

        private static int indexOf(int[] names, int many, int name) {
            for (int i = 0; i < many && i < names.length; i++) {
                if (names[i] == name) {
                    return i;
                }
            }
            return NONE;
        }

        void addRoom(int name, int newDoor, int newFloor) {
            if (rooms < MOST_ROOMS) {
                roomName[rooms] = name;
                door[rooms] = newDoor;
                floor[rooms] = newFloor;
                rooms++;
            }
        }

        void addWay(int from, int to, int newMinutes) {
            if (isRoom(from) && isRoom(to)) {
                minutes[from * MOST_ROOMS + to] = newMinutes;
                minutes[to * MOST_ROOMS + from] = newMinutes;
            }
        }

        void addPerson(int name, int newStrong, int newWeight, int newWidth, int newHome) {
            if (people < MOST_PEOPLE) {
                personName[people] = name;
                strong[people] = newStrong;
                weight[people] = newWeight;
                width[people] = newWidth;
                home[people] = newHome;
                partner[people] = NONE;
                people++;
            }
        }

        void join(int one, int other) {
            if (isPerson(one) && isPerson(other)) {
                partner[one] = other;
                partner[other] = one;
            }
        }

        /** Whether one more chair so wide can be in a room when all are at home. */
        boolean houses(int room, int newWidth) {
            if (!isRoom(room) || newWidth > door[room]) {
                return false;
            }
            int load = newWidth;
            for (int person = 0; person < people; person++) {
                load += home[person] == room ? width[person] : 0;
            }
            return load <= floor[room];
        }

        int doorWidth(int chair) {
            if (!isPerson(chair)) {
                return 0;
            }
            return width[chair] + (isPerson(partner[chair]) ? width[partner[chair]] : 0);
        }

        int wayMinutes(int from, int to) {
            return isRoom(from) && isRoom(to) ? minutes[from * MOST_ROOMS + to] : 0;
        }

        int neighbours(int from) {
            int many = 0;
            for (int to = 0; to < rooms; to++) {
                many += wayMinutes(from, to) > 0 ? 1 : 0;
            }
            return many;
        }

        int neighbour(int from, int which) {
            int many = 0;
            for (int to = 0; to < rooms; to++) {
                if (wayMinutes(from, to) > 0) {
                    if (many == which) {
                        return to;
                    }
                    many++;
                }
            }
            return NONE;
        }
    }

    /** A town and who and what is where in it: all that acts change lies in one row of cells. */
    private static final class Scene {
        static final int ROOM_CELL = 0;
        static final int CHAIR_CELL = 8;
        static final int BROKEN_CELL = 16;
        static final int CLOCK_CELL = 24;
        static final int ACHE_CELL = 32;
        static final int KEPT_COUNT = 40;
        static final int KEPT_CELL = 41;
        static final int CELLS = KEPT_CELL + MOST_KEPT;

        Town town = new Town();
        Town draft = new Town();
        final int[] cells = new int[CELLS];
        private final int[] given = new int[Formula.GIVEN];

        /** The draft becomes the town, with all people and chairs at home. */
        void takeDraft() {
            Town old = town;
            town = draft;
            draft = old;
            Arrays.fill(cells, 0);
            for (int person = 0; person < town.people; person++) {
                cells[ROOM_CELL + person] = town.home[person];
                cells[CHAIR_CELL + person] = town.home[person];
            }
        }

        int roomOf(int person) {
            return cells[ROOM_CELL + person];
        }

        int chairRoom(int chair) {
            return cells[CHAIR_CELL + chair];
        }

        boolean isBroken(int chair) {
            return cells[BROKEN_CELL + chair] != 0;
        }

        int clockOf(int person) {
            return cells[CLOCK_CELL + person];
        }

        int acheOf(int person) {
            return cells[ACHE_CELL + person];
        }

        int keptCount() {
            return cells[KEPT_COUNT];
        }

        int sitting() {
            int many = 0;
            for (int person = 0; person < town.people; person++) {
                many += sits(person) ? 1 : 0;
            }
            return many;
        }

        int brokenChairs() {
            int many = 0;
            for (int chair = 0; chair < town.people; chair++) {
                many += isBroken(chair) ? 1 : 0;
            }
            return many;
        }

        int latestClock() {
            int latest = 0;
            for (int person = 0; person < town.people; person++) {
                latest = Math.max(latest, clockOf(person));
            }
            return latest;
        }

        int allAches() {
            int all = 0;
            for (int person = 0; person < town.people; person++) {
                all += acheOf(person);
            }
            return all;
        }

        int peopleIn(int room) {
            int bits = 0;
            for (int person = 0; person < town.people; person++) {
                bits |= roomOf(person) == room ? 1 << person : 0;
            }
            return bits;
        }

        int chairsIn(int room) {
            int bits = 0;
            for (int chair = 0; chair < town.people; chair++) {
                bits |= chairRoom(chair) == room ? 1 << chair : 0;
            }
            return bits;
        }

        int sittingIn(int room) {
            int bits = 0;
            for (int person = 0; person < town.people; person++) {
                bits |= roomOf(person) == room && sits(person) ? 1 << person : 0;
            }
            return bits;
        }

        /** How wide all chairs in a room are together, but for one. */
        int load(int room, int without) {
            int load = 0;
            for (int chair = 0; chair < town.people; chair++) {
                load += chair != without && chairRoom(chair) == room ? town.width[chair] : 0;
            }
            return load;
        }

        boolean admits(int room, int chair) {
            return town.isRoom(room) && town.isPerson(chair) && town.doorWidth(chair) <= town.door[room]
                && load(room, chair) + town.width[chair] <= town.floor[room];
        }

        boolean sits(int person) {
            return wouldSit(person, roomOf(person), chairRoom(person));
        }

        /** Whether one would sit in a room, were his chair where it is told, all others as they are. */
        boolean wouldSit(int person, int room, int ownChairRoom) {
            int partner = town.partner[person];
            return ownChairRoom == room && !isBroken(person)
                && (!town.isPerson(partner) || chairRoom(partner) == room);
        }

        boolean canCarry(int person, int to, int chair) {
            return town.isPerson(chair) && !isBroken(chair) && chairRoom(chair) == roomOf(person) && admits(to, chair);
        }

        /** What one takes on the way from where he is, NONE when he can't go so. */
        int goingMinutes(int person, int to, int chair) {
            if (!town.isPerson(person) || town.wayMinutes(roomOf(person), to) == 0) {
                return NONE;
            }
            if (chair != NONE && !canCarry(person, to, chair)) {
                return NONE;
            }
            return minutesBy(person, chair, town.wayMinutes(roomOf(person), to));
        }

        int minutesBy(int person, int chair, int wayMinutes) {
            if (chair == NONE || town.slow.size == 0) {
                return wayMinutes;
            }
            give(person, chair, wayMinutes);
            return wayMinutes + town.slow.extra(given);
        }

        private void give(int person, int chair, int minutes) {
            given[-1 - Formula.TAKES] = minutes;
            given[-1 - Formula.WEIGHT] = town.weight[chair];
            given[-1 - Formula.STRONG] = town.strong[person];
            given[-1 - Formula.WIDE] = town.width[chair];
            given[-1 - Formula.CLOCK] = clockOf(person);
            given[-1 - Formula.OWN] = chair == person ? 1 : 0;
        }

        private void spend(int person, int minutes) {
            cells[CLOCK_CELL + person] = Math.min(MOST_CLOCK, clockOf(person) + minutes);
        }

        void walk(int person, int room, int minutes) {
            spend(person, minutes);
            cells[ROOM_CELL + person] = room;
        }

        void carry(int person, int room, int chair, int minutes) {
            cells[CHAIR_CELL + chair] = room;
            int many = keptCount();
            if (many >= MOST_KEPT) {
                System.arraycopy(cells, KEPT_CELL + 1, cells, KEPT_CELL, MOST_KEPT - 1);
                many = MOST_KEPT - 1;
            }
            cells[KEPT_CELL + many] = ((minutes * 8 + room) * 8 + person) * 8 + chair;
            cells[KEPT_COUNT] = many + 1;
        }

        int keptPart(int k, int what) {
            if (k < 0 || k >= keptCount()) {
                return NONE;
            }
            int carried = cells[KEPT_CELL + k];
            switch (what) {
                case 0: return carried & 7;
                case 1: return carried >> 3 & 7;
                case 2: return carried >> 6 & 7;
                case 3: return carried >> 9;
                default: return NONE;
            }
        }

        void spoil(int chair) {
            cells[BROKEN_CELL + chair] = 1;
        }

        /** The clock goes first, as the document tells it: standing is judged by the later clock. */
        void spendWaiting(int person, int minutes) {
            spend(person, minutes);
            if (sits(person)) {
                return;
            }
            give(person, person, minutes);
            int more = town.stands.size == 0 ? minutes : town.stands.extra(given);
            cells[ACHE_CELL + person] = Math.min(MOST_CLOCK, acheOf(person) + more);
        }

        boolean canMend(int person, int chair) {
            return town.isPerson(person) && town.isPerson(chair) && town.isRoom(town.carpenter)
                && roomOf(person) == town.carpenter && chairRoom(chair) == town.carpenter && isBroken(chair);
        }

        void makeWhole(int person, int chair) {
            cells[BROKEN_CELL + chair] = 0;
            spend(person, MENDING);
        }

        /** Writes the image; how many bytes it has. */
        int draw(int[] picture) {
            int length = 0;
            int check = 113;
            for (int person = 0; person < town.people; person++) {
                for (int k = 0; k < PERSON_BYTES; k++) {
                    picture[length] = imageByte(person, k);
                    check = (5 * check + picture[length]) % 251;
                    length++;
                }
            }
            picture[length] = check;
            return length + 1;
        }

        private int imageByte(int person, int k) {
            switch (k) {
                case 0: return roomOf(person);
                case 1: return chairRoom(person);
                case 2: return cells[BROKEN_CELL + person];
                case 3: case 4: case 5: return clockOf(person) >> 8 * (5 - k) & 255;
                default: return acheOf(person) >> 8 * (8 - k) & 255;
            }
        }

        boolean isImage(Tape tape) {
            int last = town.people * PERSON_BYTES;
            if (tape.length != last + 1) {
                return false;
            }
            int check = 113;
            for (int k = 0; k < last; k++) {
                check = (5 * check + tape.bytes[k]) % 251;
            }
            if (check != tape.bytes[last]) {
                return false;
            }
            for (int person = 0; person < town.people; person++) {
                int first = person * PERSON_BYTES;
                if (!town.isRoom(tape.bytes[first]) || !town.isRoom(tape.bytes[first + 1]) || tape.bytes[first + 2] > 1
                    || threeBytes(tape, first + 3) > MOST_CLOCK || threeBytes(tape, first + 6) > MOST_CLOCK) {
                    return false;
                }
            }
            return floorsHold(tape);
        }

        private boolean floorsHold(Tape tape) {
            for (int room = 0; room < town.rooms; room++) {
                int load = 0;
                for (int chair = 0; chair < town.people; chair++) {
                    load += tape.bytes[chair * PERSON_BYTES + 1] == room ? town.width[chair] : 0;
                }
                if (load > town.floor[room]) {
                    return false;
                }
            }
            return true;
        }

        private static int threeBytes(Tape tape, int first) {
            return tape.bytes[first] << 16 | tape.bytes[first + 1] << 8 | tape.bytes[first + 2];
        }

        void takeImage(Tape tape) {
            for (int person = 0; person < town.people; person++) {
                int first = person * PERSON_BYTES;
                cells[ROOM_CELL + person] = tape.bytes[first];
                cells[CHAIR_CELL + person] = tape.bytes[first + 1];
                cells[BROKEN_CELL + person] = tape.bytes[first + 2];
                cells[CLOCK_CELL + person] = threeBytes(tape, first + 3);
                cells[ACHE_CELL + person] = threeBytes(tape, first + 6);
            }
            cells[KEPT_COUNT] = 0;
        }
    }

    /** How all was ahead of each of the last acts: a ring of rows of cells. */
    private static final class History {
        private final int[] rows = new int[MOST_ACTS * Scene.CELLS];
        private int newest = 0;
        int count = 0;

        void remember(int[] cells) {
            newest = (newest + 1) % MOST_ACTS;
            System.arraycopy(cells, 0, rows, newest * Scene.CELLS, Scene.CELLS);
            count = Math.min(MOST_ACTS, count + 1);
        }

        void takeBack(int[] cells) {
            System.arraycopy(rows, newest * Scene.CELLS, cells, 0, Scene.CELLS);
            newest = (newest + MOST_ACTS - 1) % MOST_ACTS;
            count = Math.max(0, count - 1);
        }
    }

    /** The shortest way of a chair, when each way between two rooms has one price. */
    private static final class Paths {
        /** From room times eight and to room; 0 where the chair can't go. */
        private final int[] price = new int[MOST_ROOMS * MOST_ROOMS];
        private final int[] who = new int[MOST_ROOMS * MOST_ROOMS];
        private final int[] left = new int[MOST_ROOMS];
        private final int[] path = new int[MOST_ROOMS];
        private int start = 0;
        private int length = 0;
        int minutes = NONE;

        void layRoute(Scene scene, int person, int chair) {
            Arrays.fill(price, 0);
            layPerson(scene, person, chair);
        }

        void layBearers(Scene scene, int chair) {
            Arrays.fill(price, 0);
            for (int person = 0; person < scene.town.people; person++) {
                layPerson(scene, person, chair);
            }
        }

        /** Only a lower price takes a way from an earlier bearer. */
        private void layPerson(Scene scene, int person, int chair) {
            for (int to = 0; to < scene.town.rooms; to++) {
                boolean open = scene.admits(to, chair);
                for (int from = 0; from < scene.town.rooms; from++) {
                    int wayMinutes = scene.town.wayMinutes(from, to);
                    if (!open || wayMinutes == 0) {
                        continue;
                    }
                    int cell = from * MOST_ROOMS + to;
                    int asked = scene.minutesBy(person, chair, wayMinutes);
                    if (price[cell] == 0 || asked < price[cell]) {
                        price[cell] = asked;
                        who[cell] = person;
                    }
                }
            }
        }

        void find(int rooms, int from, int to) {
            length = 0;
            start = from;
            measure(rooms, to);
            minutes = left[from] < FAR ? left[from] : NONE;
            int at = from;
            for (int i = 0; i < rooms && at != to && minutes != NONE; i++) {
                at = firstOnward(rooms, at);
                path[length] = at;
                length++;
            }
        }

        private void measure(int rooms, int to) {
            Arrays.fill(left, FAR);
            left[to] = 0;
            for (int round = 1; round < rooms; round++) {
                for (int from = 0; from < rooms; from++) {
                    for (int next = 0; next < rooms; next++) {
                        int asked = price[from * MOST_ROOMS + next];
                        if (asked > 0 && left[next] < FAR) {
                            left[from] = Math.min(left[from], asked + left[next]);
                        }
                    }
                }
            }
        }

        /** Of the rooms through which nothing is lost the first; every price is above 0, so it ends. */
        private int firstOnward(int rooms, int at) {
            for (int next = 0; next < rooms; next++) {
                int asked = price[at * MOST_ROOMS + next];
                if (asked > 0 && asked + left[next] == left[at]) {
                    return next;
                }
            }
            return at;
        }

        int roomAt(int k) {
            return k >= 0 && k < length ? path[k] : NONE;
        }

        int bearerAt(int k) {
            if (k < 0 || k >= length) {
                return NONE;
            }
            int from = k == 0 ? start : path[k - 1];
            return who[from * MOST_ROOMS + path[k]];
        }
    }

    /** The least carrying through a row of rooms. */
    private static final class Errand {
        /** Ways gone times eight and the chair's room: the least minutes for what is left. */
        private final int[] best = new int[(MOST_WAYS + 1) * MOST_ROOMS];
        final int[] taken = new int[MOST_WAYS];
        int ways = 0;

        boolean isTold(Scene scene, Tape tape, int person) {
            boolean hasRows = tape.length >= 2 && tape.length <= 2 * MOST_WAYS && tape.length % 2 == 0;
            if (!scene.town.isPerson(person) || !hasRows) {
                return false;
            }
            int at = scene.roomOf(person);
            for (int k = 0; k + 1 < tape.length; k += 2) {
                if (scene.town.wayMinutes(at, tape.bytes[k]) == 0 || tape.bytes[k + 1] > 1) {
                    return false;
                }
                at = tape.bytes[k];
            }
            return true;
        }

        int settle(Scene scene, Tape tape, int person) {
            int rows = tape.length / 2;
            Arrays.fill(best, 0);
            for (int k = rows - 1; k >= 0; k--) {
                for (int chairRoom = 0; chairRoom < scene.town.rooms; chairRoom++) {
                    int without = without(scene, tape, person, k, chairRoom);
                    int with = with(scene, tape, person, k, chairRoom);
                    best[k * MOST_ROOMS + chairRoom] = Math.min(without, with);
                }
            }
            int least = best[scene.chairRoom(person)];
            ways = 0;
            if (least >= FAR) {
                return NONE;
            }
            follow(scene, tape, person, rows);
            return least;
        }

        private void follow(Scene scene, Tape tape, int person, int rows) {
            int chairRoom = scene.chairRoom(person);
            for (int k = 0; k < rows && k < MOST_WAYS; k++) {
                boolean leaves = without(scene, tape, person, k, chairRoom) == best[k * MOST_ROOMS + chairRoom];
                taken[k] = leaves ? 0 : 1;
                chairRoom = leaves ? chairRoom : tape.bytes[2 * k];
            }
            ways = rows;
        }

        private static int roomAhead(Scene scene, Tape tape, int person, int k) {
            return k == 0 ? scene.roomOf(person) : tape.bytes[2 * k - 2];
        }

        private int without(Scene scene, Tape tape, int person, int k, int chairRoom) {
            int minutes = scene.town.wayMinutes(roomAhead(scene, tape, person, k), tape.bytes[2 * k]);
            return arrived(scene, tape, person, k, chairRoom, minutes);
        }

        private int with(Scene scene, Tape tape, int person, int k, int chairRoom) {
            int from = roomAhead(scene, tape, person, k);
            int to = tape.bytes[2 * k];
            if (chairRoom != from || scene.isBroken(person) || !scene.admits(to, person)) {
                return FAR;
            }
            int minutes = scene.minutesBy(person, person, scene.town.wayMinutes(from, to));
            return arrived(scene, tape, person, k, to, minutes);
        }

        /** All minutes from this way on, his chair being in chairRoom behind it; FAR if he can't sit where he must. */
        private int arrived(Scene scene, Tape tape, int person, int k, int chairRoom, int minutes) {
            boolean must = tape.bytes[2 * k + 1] == 1;
            if (must && !scene.wouldSit(person, tape.bytes[2 * k], chairRoom)) {
                return FAR;
            }
            return Math.min(FAR, minutes + best[(k + 1) * MOST_ROOMS + chairRoom]);
        }
    }

    /** Who can be seated, and who is where by how many stand. */
    private static final class Seating {
        /** Eight people standing in told rooms can be counted in at most two to the eighth ways. */
        static final int STATES = 256;

        private final int[] wanted = new int[MOST_ROOMS];
        /** How far one more who stands in a room moves the state; 0 in rooms that are not told. */
        private final int[] step = new int[MOST_ROOMS];
        /** People so far times the states: ways that lead there. */
        private final int[] before = new int[MOST_PEOPLE * STATES];
        private final int[] after = new int[STATES];
        private final int[] fresh = new int[STATES];
        final int[] waysIn = new int[MOST_PEOPLE * MOST_ROOMS];
        boolean told = false;
        private int states = 1;

        int mostSeated(Scene scene, int room, int people) {
            int best = 0;
            for (int some = 1; some <= people; some++) {
                boolean among = (some & ~people) == 0;
                if (among && Integer.bitCount(some) > Integer.bitCount(best) && canSeat(scene, room, some)) {
                    best = some;
                }
            }
            return best;
        }

        private static boolean canSeat(Scene scene, int room, int some) {
            Town town = scene.town;
            int load = scene.load(room, NONE);
            for (int person = 0; person < town.people; person++) {
                if ((some >> person & 1) == 0) {
                    continue;
                }
                int partner = town.partner[person];
                if (scene.isBroken(person) || partner != NONE && (some >> partner & 1) == 0) {
                    return false;
                }
                if (scene.chairRoom(person) != room) {
                    if (town.doorWidth(person) > town.door[room]) {
                        return false;
                    }
                    load += town.width[person];
                }
            }
            return load <= town.floor[room];
        }

        boolean isTold(Town town, Tape tape) {
            if (tape.length < 2 || tape.length > 2 * MOST_ROOMS || tape.length % 2 != 0) {
                return false;
            }
            int seen = 0;
            for (int k = 0; k + 1 < tape.length; k += 2) {
                int room = tape.bytes[k];
                if (!town.isRoom(room) || (seen >> room & 1) == 1) {
                    return false;
                }
                seen |= 1 << room;
            }
            note(tape);
            return true;
        }

        private void note(Tape tape) {
            Arrays.fill(wanted, NONE);
            for (int k = 0; k + 1 < tape.length; k += 2) {
                int room = tape.bytes[k];
                if (room < MOST_ROOMS) {
                    wanted[room] = tape.bytes[k + 1];
                }
            }
        }

        int countWays(Scene scene) {
            told = true;
            Arrays.fill(waysIn, 0);
            if (!layStates(scene.town.people)) {
                return 0;
            }
            countBefore(scene);
            Arrays.fill(after, 0);
            after[states - 1] = 1;
            for (int person = scene.town.people - 1; person >= 0; person--) {
                countPerson(scene, person);
            }
            return after[0];
        }

        /** A state is how many stand in each told room so far; false if more must stand than there are. */
        private boolean layStates(int people) {
            int all = 0;
            states = 1;
            for (int room = 0; room < MOST_ROOMS; room++) {
                all += Math.max(0, wanted[room]);
                if (all > people) {
                    return false;
                }
                step[room] = wanted[room] == NONE ? 0 : states;
                states *= 1 + Math.max(0, wanted[room]);
            }
            return states <= STATES;
        }

        private void countBefore(Scene scene) {
            Arrays.fill(before, 0);
            before[0] = 1;
            for (int person = 0; person + 1 < scene.town.people; person++) {
                for (int room = 0; room < scene.town.rooms; room++) {
                    for (int state = 0; state < states; state++) {
                        int next = stateBehind(scene, person, room, state);
                        if (next != NONE) {
                            before[(person + 1) * STATES + next] += before[person * STATES + state];
                        }
                    }
                }
            }
        }

        private void countPerson(Scene scene, int person) {
            Arrays.fill(fresh, 0);
            for (int room = 0; room < scene.town.rooms; room++) {
                int ways = 0;
                for (int state = 0; state < states; state++) {
                    int next = stateBehind(scene, person, room, state);
                    if (next != NONE) {
                        ways += before[person * STATES + state] * after[next];
                        fresh[state] += after[next];
                    }
                }
                waysIn[person * MOST_ROOMS + room] = ways;
            }
            System.arraycopy(fresh, 0, after, 0, STATES);
        }

        /** The state when one more is in a room; NONE when too many would stand there. */
        private int stateBehind(Scene scene, int person, int room, int state) {
            if (step[room] == 0 || scene.wouldSit(person, room, scene.chairRoom(person))) {
                return state;
            }
            int standing = state / step[room] % (wanted[room] + 1);
            return standing < wanted[room] ? state + step[room] : NONE;
        }
    }
}
