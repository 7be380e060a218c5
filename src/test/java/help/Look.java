import java.util.LinkedHashMap;
import java.util.Map;

/** All that questions tell of an object, so that a call can be held against "all stays". */
final class Look {
    /** A call by what it answers; a boolean counts 1 or 0. */
    interface Call {
        int of(OwnChair x);
    }

    private final Map<String, Integer> told = new LinkedHashMap<>();

    private Look() {
    }

    static int bit(boolean answer) {
        return answer ? 1 : 0;
    }

    /** Everything but what status counts. */
    static Look at(OwnChair x) {
        Look look = new Look();
        look.counts(x);
        look.town(x);
        look.people(x);
        look.plans(x);
        return look;
    }

    private void put(String call, int answer) {
        told.put(call, answer);
    }

    private void counts(OwnChair x) {
        for (int what = -1; what <= 2; what++) {
            put("fault(" + what + ")", x.fault(what));
        }
        for (int what = -1; what <= 11; what++) {
            put("has(" + what + ")", x.has(what));
        }
        for (int k = -1; k <= 40; k++) {
            for (int what = -1; what <= 4; what++) {
                put("kept(" + k + ", " + what + ")", x.kept(k, what));
            }
        }
        for (int k = -1; k <= 73; k++) {
            put("octet(" + k + ")", x.octet(k));
        }
    }

    private void town(OwnChair x) {
        for (int which = -1; which <= 8; which++) {
            for (int k = -1; k <= 6; k++) {
                put("letter(0, " + which + ", " + k + ")", x.letter(0, which, k));
                put("letter(1, " + which + ", " + k + ")", x.letter(1, which, k));
            }
            for (int what = -1; what <= 6; what++) {
                put("room(" + which + ", " + what + ")", x.room(which, what));
            }
            for (int to = -1; to <= 8; to++) {
                put("way(" + which + ", " + to + ")", x.way(which, to));
            }
        }
    }

    private void people(OwnChair x) {
        for (int person = -1; person <= x.has(1); person++) {
            for (int what = -1; what <= 11; what++) {
                put("person(" + person + ", " + what + ")", x.person(person, what));
            }
            for (int room = -1; room <= x.has(0); room++) {
                put("fits(" + person + ", " + room + ")", x.fits(person, room));
                put("where(" + person + ", " + room + ")", x.where(person, room));
                for (int chair = -2; chair <= x.has(1); chair++) {
                    put("takes(" + person + ", " + room + ", " + chair + ")", x.takes(person, room, chair));
                }
            }
        }
    }

    private void plans(OwnChair x) {
        for (int k = -1; k <= 12; k++) {
            put("along(" + k + ")", x.along(k));
        }
        for (int chair = -1; chair <= x.has(1); chair++) {
            for (int room = -1; room <= x.has(0); room++) {
                int some = (1 << x.has(1)) - 1 & ~(chair < 0 ? 0 : 1 << chair);
                put("seated(" + room + ", " + some + ")", x.seated(room, some));
                for (int k = -1; k <= 1; k++) {
                    put("route(0, " + chair + ", " + room + ", " + k + ")", x.route(0, chair, room, k));
                    put("bearer(" + chair + ", " + room + ", " + k + ")", x.bearer(chair, room, k));
                }
            }
        }
    }

    /** Holds every answer against another look's, but for the questions named. */
    void same(String call, Look other, String... but) {
        for (String ignored : but) {
            told.remove(ignored);
            other.told.remove(ignored);
        }
        int unlike = 0;
        for (Map.Entry<String, Integer> question : told.entrySet()) {
            Integer then = other.told.get(question.getKey());
            if (!question.getValue().equals(then)) {
                unlike++;
                Check.due(call + ": " + question.getKey(), then == null ? Integer.MIN_VALUE : then, question.getValue());
            }
        }
        Check.due(call + ": answers that have changed", unlike, 0);
        Check.due(call + ": questions", other.told.size(), told.size());
    }

    static int[] status(OwnChair x) {
        int[] counts = new int[6];
        for (int what = 0; what < 6; what++) {
            counts[what] = x.status(what);
        }
        return counts;
    }

    /** How many bytes are on the tape, which stays as it is; for tapes that twenty more bytes still fit on. */
    static int tapeLength(OwnChair x) {
        int more = x.feed(0, 0, 0, 0, 0);
        x.end(more - 20);
        return more - 20;
    }

    /** A call that is refused: its answer, one more in status(kind) alone, the tape stays, all else as it was. */
    static void refused(String call, OwnChair x, int kind, int answer, Call made) {
        held(call, x, kind, answer, made, tapeLength(x));
    }

    /** The same for a call that takes the tape: it goes though the call is refused. */
    static void refusedWithTape(String call, OwnChair x, int kind, Call made) {
        held(call, x, kind, OwnChair.NONE, made, 0);
    }

    /** A call that changes nothing and is not counted as refused. */
    static void silent(String call, OwnChair x, int answer, Call made) {
        held(call, x, OwnChair.NONE, answer, made, tapeLength(x));
    }

    private static void held(String call, OwnChair x, int kind, int answer, Call made, int tape) {
        Look ahead = at(x);
        int[] counts = status(x);
        Check.due(call, made.of(x), answer);
        Look behind = at(x);
        if (kind == 1) {
            // a fault is what town() is to tell of
            ahead.same(call, behind, "fault(0)", "fault(1)");
        } else {
            ahead.same(call, behind);
        }
        for (int what = 0; what < 6; what++) {
            Check.due(call + ": status(" + what + ")", x.status(what), counts[what] + (what == kind ? 1 : 0));
        }
        Check.due(call + ": bytes on the tape", tapeLength(x), tape);
    }
}
