import java.util.Set;
import java.util.regex.Matcher;
import java.util.regex.Pattern;

/** A TOWN's text, read by patterns and told as Sums; the first FAULT ends it. */
final class ModelText {
    private static final Set<String> OWN_WORDS = Set.of("room", "door", "floor", "way", "takes", "person", "strong",
        "chair", "wide", "at", "joined", "slow", "stands", "breaks", "weight", "clock", "own", "if", "or", "and", "not",
        "all", "min", "max", "carpenter");
    private static final Pattern BLANKS = Pattern.compile("[\n ]*");
    private static final Pattern TOKEN = Pattern.compile("[a-z]+|[0-9]+|[\\x00-\\xff]", Pattern.DOTALL);

    private static final class Stop extends RuntimeException {
        private static final long serialVersionUID = 1;
        final int fault;
        final int place;

        Stop(int fault, int place) {
            this.fault = fault;
            this.place = place;
        }
    }

    private final String text;
    private int place0 = 0;
    private int open = 0;
    final Model.Land land = new Model.Land();
    int fault = 0;
    int place = Model.NONE;

    ModelText(String text) {
        this.text = text;
    }

    int read() {
        int statements = 0;
        try {
            while (first() < text.length()) {
                if (statements == 80) {
                    throw new Stop(6, first());
                }
                statement();
                must(";");
                statements++;
            }
        } catch (Stop stop) {
            fault = stop.fault;
            place = stop.place;
        }
        return statements;
    }

    /** The next token's first byte. */
    private int first() {
        Matcher blanks = BLANKS.matcher(text);
        blanks.find(place0);
        return blanks.end();
    }

    /** The next token, "" at the end. */
    private String peek() {
        int start = first();
        if (start == text.length()) {
            return "";
        }
        Matcher token = TOKEN.matcher(text);
        token.find(start);
        String found = token.group();
        boolean tight = start > 0 && start == place0 && text.substring(start - 1, start + 1).matches("[a-z0-9]{2}");
        if (tight) {
            throw new Stop(1, start);
        }
        if (found.matches("[a-z]{7,}") && !found.equals("carpenter")) {
            throw new Stop(1, start + 6);
        }
        if (found.matches("[0-9]{5,}")) {
            throw new Stop(1, start + 4);
        }
        return found;
    }

    private void pass() {
        place0 = first() + peek().length();
    }

    private Stop unexpected() {
        return new Stop(1, first());
    }

    private void must(String token) {
        if (!peek().equals(token)) {
            throw unexpected();
        }
        pass();
    }

    private boolean passed(String token) {
        if (!peek().equals(token)) {
            return false;
        }
        pass();
        return true;
    }

    private void statement() {
        int start = first();
        String word = peek();
        boolean many = word.equals("room") && land.rooms.size() == 8 || word.equals("person") && land.people.size() == 8
            || word.equals("slow") && land.slow != null || word.equals("stands") && land.stands != null;
        if (many) {
            throw new Stop(6, start);
        }
        if (!Set.of("room", "way", "person", "joined", "slow", "stands", "breaks", "carpenter").contains(word)) {
            throw unexpected();
        }
        pass();
        switch (word) {
            case "room" -> room();
            case "way" -> way();
            case "person" -> person();
            case "joined" -> joined();
            case "slow" -> land.slow = sum();
            case "stands" -> land.stands = sum();
            case "breaks" -> land.breaks = number(0, 100);
            default -> land.carpenter = known(land.rooms);
        }
    }

    private String name() {
        String word = peek();
        if (!word.matches("[a-z]+") || OWN_WORDS.contains(word)) {
            throw unexpected();
        }
        return word;
    }

    private String fresh() {
        String word = name();
        if (land.rooms.contains(word) || land.people.contains(word)) {
            throw new Stop(2, first());
        }
        pass();
        return word;
    }

    private int known(java.util.List<String> names) {
        String word = name();
        if (!names.contains(word)) {
            throw new Stop(3, first());
        }
        pass();
        return names.indexOf(word);
    }

    private int number(int least, int most) {
        String digits = peek();
        if (!digits.matches("[0-9]+")) {
            throw unexpected();
        }
        int worth = Integer.parseInt(digits);
        if (worth < least || worth > most) {
            throw new Stop(4, first());
        }
        pass();
        return worth;
    }

    private void room() {
        String name = fresh();
        must("door");
        int door = number(1, 9);
        must("floor");
        int floor = number(1, 99);
        land.rooms.add(name);
        land.doors.add(door);
        land.floors.add(floor);
    }

    private void way() {
        int from = known(land.rooms);
        int start = first();
        int to = known(land.rooms);
        if (from == to) {
            throw new Stop(3, start);
        }
        must("takes");
        int minutes = number(1, 60);
        land.ways[from][to] = minutes;
        land.ways[to][from] = minutes;
    }

    private void person() {
        String name = fresh();
        must("strong");
        int strong = number(1, 99);
        must("chair");
        int weight = number(1, 99);
        must("wide");
        int wide = number(1, 9);
        must("at");
        int start = first();
        int home = known(land.rooms);
        int load = wide;
        for (int[] other : land.traits) {
            load += other[3] == home ? other[2] : 0;
        }
        if (wide > land.doors.get(home) || load > land.floors.get(home)) {
            throw new Stop(3, start);
        }
        land.people.add(name);
        land.traits.add(new int[] {strong, weight, wide, home});
    }

    private int single(int other) {
        int start = first();
        int person = known(land.people);
        if (person == other || land.partner[person] != Model.NONE) {
            throw new Stop(3, start);
        }
        return person;
    }

    private void joined() {
        int one = single(Model.NONE);
        int other = single(one);
        land.partner[one] = other;
        land.partner[other] = one;
    }

    private static long capped(long worth) {
        return worth > 1000000 ? 1000000 : worth < -1000000 ? -1000000 : worth;
    }

    private Model.Sum sum() {
        Model.Sum all = product();
        while (peek().equals("+") || peek().equals("-")) {
            int sign = peek().equals("+") ? 1 : -1;
            pass();
            Model.Sum a = all;
            Model.Sum b = product();
            all = g -> capped(a.of(g) + sign * b.of(g));
        }
        return all;
    }

    private Model.Sum product() {
        Model.Sum all = part();
        while (!peek().isEmpty() && "*/%".contains(peek())) {
            String sign = peek();
            pass();
            Model.Sum a = all;
            Model.Sum b = part();
            all = switch (sign) {
                case "*" -> g -> capped(a.of(g) * b.of(g));
                case "/" -> g -> quotient(a.of(g), b.of(g));
                default -> g -> b.of(g) == 0 ? 0 : a.of(g) - b.of(g) * quotient(a.of(g), b.of(g));
            };
        }
        return all;
    }

    /** The greatest whole number not above. */
    private static long quotient(long a, long b) {
        return b == 0 ? 0 : (long) Math.floor((double) a / (double) b);
    }

    private void opens(String sign) {
        int start = first();
        if (!peek().equals(sign)) {
            throw unexpected();
        }
        if (open == 7) {
            throw new Stop(5, start);
        }
        pass();
        open++;
    }

    private void closes(String sign) {
        must(sign);
        open--;
    }

    private Model.Sum part() {
        String word = peek();
        if (word.matches("[0-9]+")) {
            pass();
            long worth = Long.parseLong(word);
            return g -> worth;
        }
        if (word.equals("(")) {
            opens("(");
            Model.Sum inner = sum();
            closes(")");
            return inner;
        }
        if (!Set.of("takes", "weight", "strong", "wide", "clock", "own", "min", "max", "if").contains(word)) {
            throw unexpected();
        }
        pass();
        return switch (word) {
            case "takes" -> Model.Given::takes;
            case "weight" -> Model.Given::weight;
            case "strong" -> Model.Given::strong;
            case "wide" -> Model.Given::wide;
            case "clock" -> Model.Given::clock;
            case "own" -> Model.Given::own;
            case "if" -> choice();
            default -> pair(word.equals("min"));
        };
    }

    private Model.Sum pair(boolean least) {
        opens("(");
        Model.Sum a = sum();
        must(",");
        Model.Sum b = sum();
        closes(")");
        return g -> least ? Math.min(a.of(g), b.of(g)) : Math.max(a.of(g), b.of(g));
    }

    private Model.Sum choice() {
        opens("(");
        Model.Sum test = test();
        must(",");
        Model.Sum a = sum();
        must(",");
        Model.Sum b = sum();
        closes(")");
        return g -> test.of(g) == 1 ? a.of(g) : b.of(g);
    }

    private Model.Sum test() {
        Model.Sum all = both();
        while (passed("or")) {
            Model.Sum a = all;
            Model.Sum b = both();
            all = g -> a.of(g) + b.of(g) > 0 ? 1 : 0;
        }
        return all;
    }

    private Model.Sum both() {
        Model.Sum all = fact();
        while (passed("and")) {
            Model.Sum a = all;
            Model.Sum b = fact();
            all = g -> a.of(g) * b.of(g);
        }
        return all;
    }

    private Model.Sum fact() {
        switch (peek()) {
            case "not" -> {
                opens("not");
                Model.Sum inner = fact();
                open--;
                return g -> 1 - inner.of(g);
            }
            case "[" -> {
                opens("[");
                Model.Sum inner = test();
                closes("]");
                return inner;
            }
            case "all" -> {
                pass();
                return g -> 1;
            }
            default -> {
                return comparison();
            }
        }
    }

    private Model.Sum comparison() {
        Model.Sum a = sum();
        String sign = peek();
        if (sign.isEmpty() || !"<>=".contains(sign)) {
            throw unexpected();
        }
        pass();
        Model.Sum b = sum();
        return switch (sign) {
            case "<" -> g -> a.of(g) < b.of(g) ? 1 : 0;
            case ">" -> g -> a.of(g) > b.of(g) ? 1 : 0;
            default -> g -> a.of(g) == b.of(g) ? 1 : 0;
        };
    }
}
