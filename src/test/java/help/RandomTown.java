import java.util.ArrayList;
import java.util.List;
import java.util.Random;
import java.util.regex.Matcher;
import java.util.regex.Pattern;

/** Texts by a seed: most of them TOWNS, some with one thing wrong. */
final class RandomTown {
    private static final String[] GIVEN = {"takes", "weight", "strong", "wide", "clock", "own"};
    private static final String[] WORDS = {"room", "door", "floor", "way", "takes", "person", "strong", "chair", "wide",
        "at", "joined", "slow", "stands", "breaks", "weight", "clock", "own", "if", "or", "and", "not", "all", "min",
        "max", "carpenter", "carpente", "carpenters", "roo", "rooms", "a", "b", "zzzzzz", "zzzzzzz", "0", "1", "9", "10",
        "99", "100", "0005", "00005", "12345", ";", "(", ")", "[", "]", ",", "+", "-", "*", "/", "%", "<", ">", "=", "!",
        "A", "\t", "\u00e9", "\u0000", " ", "\n", "(((((((", "((((((((", "not not not not not not not not all",
        "[[[[[[[[", "if(", "min(1,", ";;", "9 9", "9a", "a9"};

    private final Random random;
    private final int mostRooms;
    private final int mostPeople;

    RandomTown(Random random, int mostRooms, int mostPeople) {
        this.random = random;
        this.mostRooms = mostRooms;
        this.mostPeople = mostPeople;
    }

    private int among(int least, int most) {
        return least + random.nextInt(most - least + 1);
    }

    private String name(List<String> names) {
        while (true) {
            StringBuilder name = new StringBuilder();
            int size = among(1, 6);
            for (int i = 0; i < size; i++) {
                name.append((char) ('a' + random.nextInt(26)));
            }
            String word = name.toString();
            boolean own = false;
            for (String other : WORDS) {
                own |= other.equals(word);
            }
            if (!own && !names.contains(word)) {
                names.add(word);
                return word;
            }
        }
    }

    String text() {
        List<String> names = new ArrayList<>();
        StringBuilder text = new StringBuilder();
        int rooms = among(1, mostRooms);
        int people = among(0, mostPeople);
        int[] door = new int[rooms];
        int[] left = new int[rooms];
        boolean roomy = random.nextInt(3) > 0;
        for (int r = 0; r < rooms; r++) {
            door[r] = among(roomy ? 4 : 1, 9);
            left[r] = among(roomy ? 9 : 1, roomy ? 40 : 12);
            text.append("room ").append(name(names)).append(" door ").append(door[r]).append(" floor ").append(left[r])
                .append(";");
        }
        int ways = rooms < 2 ? 0 : among(0, 2 * rooms);
        for (int w = 0; w < ways; w++) {
            int from = random.nextInt(rooms);
            int to = (from + among(1, rooms - 1)) % rooms;
            text.append("way ").append(names.get(from)).append(' ').append(names.get(to)).append(" takes ")
                .append(random.nextBoolean() ? among(1, 4) : among(1, 60)).append(";");
        }
        List<String> persons = new ArrayList<>();
        for (int p = 0; p < people; p++) {
            int home = random.nextInt(rooms);
            int width = among(1, 3);
            if (width > door[home] || width > left[home]) {
                continue;
            }
            left[home] -= width;
            persons.add(name(names));
            text.append("person ").append(persons.get(persons.size() - 1)).append(" strong ").append(among(1, 99))
                .append(" chair ").append(among(1, 99)).append(" wide ").append(width).append(" at ")
                .append(names.get(home)).append(";");
        }
        for (int p = 0; p + 1 < persons.size(); p += among(2, 3)) {
            if (random.nextInt(3) > 0) {
                text.append("joined ").append(persons.get(p)).append(' ').append(persons.get(p + 1)).append(";");
            }
        }
        if (random.nextInt(4) > 0) {
            text.append("slow ").append(sum(among(0, 4))).append(";");
        }
        if (random.nextInt(4) > 0) {
            text.append("stands ").append(sum(among(0, 4))).append(";");
        }
        if (random.nextBoolean()) {
            text.append("breaks ").append(random.nextInt(4) == 0 ? 100 : among(0, 40)).append(";");
        }
        if (random.nextInt(4) > 0) {
            text.append("carpenter ").append(names.get(random.nextInt(rooms))).append(";");
        }
        return text.toString();
    }

    private String spaced(String sign) {
        return random.nextInt(6) == 0 ? " " + sign + "\n" : sign;
    }

    String sum(int depth) {
        StringBuilder sum = new StringBuilder(product(depth));
        while (random.nextInt(3) == 0) {
            sum.append(spaced(random.nextBoolean() ? "+" : "-")).append(product(depth));
        }
        return sum.toString();
    }

    private String product(int depth) {
        StringBuilder product = new StringBuilder(part(depth));
        while (random.nextInt(3) == 0) {
            product.append(spaced(String.valueOf("*/%".charAt(random.nextInt(3))))).append(part(depth));
        }
        return product.toString();
    }

    private String part(int depth) {
        int kind = random.nextInt(depth > 0 ? 8 : 4);
        switch (kind) {
            case 0: return String.valueOf(random.nextInt(4) == 0 ? random.nextInt(10000) : random.nextInt(12));
            case 1: case 2: case 3: return GIVEN[random.nextInt(GIVEN.length)];
            case 4: return "(" + sum(depth - 1) + ")";
            case 5: return "min(" + sum(depth - 1) + spaced(",") + sum(depth - 1) + ")";
            case 6: return "max(" + sum(depth - 1) + spaced(",") + sum(depth - 1) + ")";
            default: return "if(" + test(depth - 1) + "," + sum(depth - 1) + "," + sum(depth - 1) + ")";
        }
    }

    private String test(int depth) {
        StringBuilder test = new StringBuilder(fact(depth));
        while (random.nextInt(3) == 0) {
            test.append(random.nextBoolean() ? " or " : " and ").append(fact(depth));
        }
        return test.toString();
    }

    private String fact(int depth) {
        int kind = random.nextInt(depth > 0 ? 6 : 4);
        switch (kind) {
            case 0: return "all";
            case 4: return "not " + fact(depth - 1);
            case 5: return "[" + test(depth - 1) + "]";
            default: return sum(depth) + "<>=".charAt(random.nextInt(3)) + sum(depth);
        }
    }

    /** A text with a thing or two that may be wrong. */
    String spoiled() {
        StringBuilder text = new StringBuilder(text());
        int times = among(1, 2);
        for (int i = 0; i < times && text.length() > 0; i++) {
            int at = random.nextInt(text.length());
            switch (random.nextInt(8)) {
                case 6: replaceNumber(text); break;
                case 7: openMany(text); break;
                case 0: text.deleteCharAt(at); break;
                case 1: text.setLength(at); break;
                case 2: text.setCharAt(at, WORDS[random.nextInt(WORDS.length)].charAt(0)); break;
                case 3: replaceToken(text, at); break;
                case 4: text.insert(at, WORDS[random.nextInt(WORDS.length)]); break;
                default: repeatStatement(text, at); break;
            }
        }
        return text.toString();
    }

    private void replaceToken(StringBuilder text, int at) {
        int first = at;
        int last = at;
        while (first > 0 && Character.isLetterOrDigit(text.charAt(first - 1))) {
            first--;
        }
        while (last < text.length() && Character.isLetterOrDigit(text.charAt(last))) {
            last++;
        }
        String[] tokens = text.toString().split("[^a-z0-9]+");
        boolean known = random.nextBoolean() && tokens.length > 0;
        text.replace(first, last, known ? tokens[random.nextInt(tokens.length)] : WORDS[random.nextInt(WORDS.length)]);
    }

    private void replaceNumber(StringBuilder text) {
        int[] edges = {0, 1, 2, 9, 10, 11, 60, 61, 99, 100, 101, 999, 9999};
        Matcher number = Pattern.compile("\\d+").matcher(text.toString());
        int skip = random.nextInt(30);
        while (number.find()) {
            if (skip-- == 0) {
                text.replace(number.start(), number.end(), String.valueOf(edges[random.nextInt(edges.length)]));
                return;
            }
        }
    }

    /** Some more ( [ not at the place of a part or a fact. */
    private void openMany(StringBuilder text) {
        int at = Math.max(text.indexOf("slow "), text.indexOf("stands ") + 2) + 5;
        StringBuilder opened = new StringBuilder();
        StringBuilder closed = new StringBuilder();
        int many = among(1, 8);
        for (int i = 0; i < many; i++) {
            boolean test = random.nextBoolean();
            opened.append(test ? random.nextBoolean() ? "if(not " : "if([" : "(");
            String behind = opened.toString().endsWith("[") ? "1=1]" : "1=1";
            opened.append(test ? behind + ",1," : "");
            closed.append(")");
        }
        text.insert(Math.min(text.length(), at), opened + "2" + closed + "+");
    }

    private void repeatStatement(StringBuilder text, int at) {
        String[] statements = text.toString().split(";");
        if (statements.length == 0) {
            return;
        }
        String again = statements[random.nextInt(statements.length)] + ";";
        int times = among(1, 9);
        for (int i = 0; i < times; i++) {
            text.append(random.nextInt(3) == 0 ? again.replaceFirst(" [a-z]+", " q" + (char) ('a' + i)) : again);
        }
    }
}
