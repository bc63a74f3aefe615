import java.util.Random;

/** Houses as texts, made by a told seed. */
final class Texts {
    private static final String[] FOR_ALL = {"ease", "faith", "war", "who", "day"};
    private static final String[] FOR_TWO = {"unease", "unfaith", "unwar", "other"};
    private static final String[] SCRAPS = {
        ";", ":", "+", "-", "*", "(", ")", "[", "]", "=", "<", ">", "7", "12", "999", "1000", "00", "ease", "bill",
        "line", "not", "and", "or", "other", "house", "lines", "person", "in", "to", "temper", "weight", "day",
        "opposes", "ayes", "sways", "shy", "?", "A", "\t", "\u00e9", "not [ (", "( ( ( ( ( ( (", "0", "10", "100"};
    private final Random draws;

    Texts(long seed) {
        draws = new Random(seed);
    }

    private int n(int bound) {
        return draws.nextInt(bound);
    }

    String house() {
        int lines = 1 + n(3);
        StringBuilder text = new StringBuilder("house lines ").append(lines).append(';');
        int people = n(4) == 0 ? n(11) : 3 + n(8);
        for (int p = 0; p < people; p++) {
            text.append(person(lines));
        }
        if (n(3) != 0) {
            text.append(n(3) == 0 ? "opposes : " + truth("opposes", 0) : opposing()).append(';');
        }
        if (n(3) != 0) {
            text.append("ayes : ").append(n(3) == 0 ? truth("ayes", 0) : "ease + bill + who > " + n(15)).append(';');
        }
        if (n(2) == 0) {
            text.append("sways : ").append(sum("sways", 0)).append(';');
        }
        if (n(2) == 0) {
            text.append("day ").append(n(3) == 0 ? n(1000) : n(5) == 0 ? 999 - n(3) : n(12)).append(";\n");
        }
        return text.length() > 900 ? house() : text.toString();
    }

    private String person(int lines) {
        StringBuilder text = new StringBuilder("person");
        for (int i = 0; i < lines; i++) {
            text.append(' ').append(n(10));
        }
        for (int i = n(4); i > 0; i--) {
            switch (n(3)) {
                case 0 -> {
                    int first = n(20);
                    text.append(" in ").append(first).append(" to ").append(n(3) == 0 ? 999 : first + n(20));
                }
                case 1 -> text.append(" temper ").append(n(11));
                default -> text.append(" weight ").append(n(5) == 0 ? 99 - n(2) : 1 + n(5));
            }
        }
        return text.append(';').append(n(3) == 0 ? "\n" : "").toString();
    }

    private String opposing() {
        return "opposes : " + switch (n(6)) {
            case 0 -> "ease + unease > " + n(18);
            case 1 -> "ease - unease > " + n(4) + " and faith < unfaith + " + n(5);
            case 2 -> "ease + unease = 9 or war = unwar + day";
            case 3 -> "who + other > " + n(14) + " - day";
            case 4 -> "(ease - unease) * (ease - unease) > " + n(50);
            default -> "not [ease + day < unease + 3 or ease > unease + " + n(6) + "]";
        };
    }

    private String truth(String law, int depth) {
        int kind = depth > 3 ? 5 : n(8);
        return switch (kind) {
            case 0 -> truth(law, depth + 1) + " or " + truth(law, depth + 1);
            case 1 -> truth(law, depth + 1) + " and " + truth(law, depth + 1);
            case 2 -> "not " + truth(law, depth + 1);
            case 3 -> "[" + truth(law, depth + 1) + "]";
            default -> sum(law, depth + 1) + " " + "=<>".charAt(n(3)) + " " + sum(law, depth + 1);
        };
    }

    private String sum(String law, int depth) {
        int kind = depth > 4 ? 6 : n(9);
        return switch (kind) {
            case 0 -> sum(law, depth + 1) + " + " + sum(law, depth + 1);
            case 1, 2 -> sum(law, depth + 1) + " - " + sum(law, depth + 1);
            case 3 -> sum(law, depth + 1) + " * " + sum(law, depth + 1);
            case 4 -> "(" + sum(law, depth + 1) + ")";
            case 5 -> "" + (n(4) == 0 ? 900 + n(100) : n(10));
            default -> name(law);
        };
    }

    private String name(String law) {
        int kind = n(11);
        if (kind < 4) {
            return FOR_ALL[n(FOR_ALL.length)];
        }
        if (law.equals("ayes")) {
            return kind < 8 ? "bill" : "ease";
        }
        return kind == 10 && law.equals("sways") ? "line" : FOR_TWO[n(FOR_TWO.length)];
    }

    /** A law of many scraps, most of which could stand in it. */
    String scraps() {
        String[] laws = {"opposes", "ayes", "sways"};
        StringBuilder text = new StringBuilder("house lines 1;").append(laws[n(3)]).append(':');
        String[] likely = {"not", "[", "]", "(", ")", "1", "ease", "other", "=", "<", "+", "-", "*", "and", "or", ";", "day"};
        for (int i = n(60); i > 0; i--) {
            text.append(' ').append(n(30) == 0 ? SCRAPS[n(SCRAPS.length)] : likely[n(likely.length)]);
        }
        return text.append(";").toString();
    }

    /** A house with some scraps of text put in, cut out, or its end cut off. */
    String spoilt() {
        StringBuilder text = new StringBuilder(house());
        for (int i = 1 + n(2); i > 0; i--) {
            int at = n(text.length() + 1);
            int end = Math.min(text.length(), at + 1 + n(6));
            switch (n(5)) {
                case 0 -> text.insert(at, " " + SCRAPS[n(SCRAPS.length)] + " ");
                case 1 -> text.insert(at, SCRAPS[n(SCRAPS.length)]);
                case 2 -> text.replace(at, end, " " + SCRAPS[n(SCRAPS.length)] + " ");
                case 3 -> text.delete(at, end);
                default -> text.setLength(n(6) == 0 ? at : text.length());
            }
        }
        return text.length() > 900 ? spoilt() : text.toString();
    }
}
