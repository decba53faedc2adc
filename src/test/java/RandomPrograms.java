import java.util.Random;

/** Writes programs by chance, the same ones for the same seed. */
final class RandomPrograms {
    private static final String SIGNS = "0123456789abcdfghknqsuxzAB?:@{}();=<>+-*/%!&|";
    private static final String NAMES = "abcABszdkh";
    private final Random random;

    RandomPrograms(Random random) {
        this.random = random;
    }

    /** A program of at most so many signs. */
    String program(int most) {
        for (;;) {
            String text = statements(random.nextInt(6), 0);
            if (text.length() <= most) {
                return text;
            }
        }
    }

    /** A program with some signs put in, left out or changed, or cut off. */
    String draft(int most) {
        StringBuilder text = new StringBuilder(program(most));
        for (int count = random.nextInt(3); count > 0; count--) {
            int place = random.nextInt(text.length() + 1);
            int how = random.nextInt(4);
            if (how == 0) {
                text.insert(place, sign());
            } else if (how == 1) {
                text.setLength(place);
            } else if (place < text.length() && how == 2) {
                text.deleteCharAt(place);
            } else if (place < text.length()) {
                text.setCharAt(place, sign());
            }
        }
        text.setLength(Math.min(text.length(), most));
        return text.toString();
    }

    /** Signs by chance, some of which come more often as they go deep. */
    String signs(int most) {
        StringBuilder text = new StringBuilder();
        String[] pieces = {"@1{", "?1{", "(", "f(", "a=(", "1", "+", ")", "}", ";", "-", "!", ":{"};
        for (int count = random.nextInt(30); count > 0; count--) {
            text.append(random.nextInt(8) == 0 ? "" + sign() : pieces[random.nextInt(pieces.length)]);
        }
        text.setLength(Math.min(text.length(), most));
        return text.toString();
    }

    /** A program that goes as deep as 8 signs, or one deeper. */
    String deep(int most) {
        StringBuilder ahead = new StringBuilder();
        StringBuilder behind = new StringBuilder();
        int blocks = random.nextInt(9);
        for (int count = 0; count < blocks; count++) {
            ahead.append(random.nextBoolean() ? "@2{" : "?1{");
            behind.insert(0, random.nextInt(4) == 0 ? "}f1;" : "}");
        }
        int more = 8 - blocks + (random.nextInt(4) == 0 ? 1 : 0);
        ahead.append("A=");
        behind.insert(0, ";");
        for (int count = 0; count < more; count++) {
            String[] begins = {"(", "1-(", "!(", "A&(", "0|("};
            ahead.append(begins[random.nextInt(begins.length)]);
            behind.insert(0, ")");
        }
        String text = ahead + "A+1" + behind;
        return text.substring(0, Math.min(text.length(), most));
    }

    private char sign() {
        return SIGNS.charAt(random.nextInt(SIGNS.length()));
    }

    private String statements(int count, int open) {
        StringBuilder text = new StringBuilder();
        for (int done = 0; done < count; done++) {
            text.append(statement(open));
        }
        return text.toString();
    }

    private String statement(int open) {
        int how = random.nextInt(20);
        if (how < 4 && open < 8) {
            String text = "?" + expression(3, open) + block(open);
            return random.nextBoolean() ? text : text + ":" + block(open);
        }
        if (how < 7 && open < 8) {
            return "@" + expression(2, open) + block(open);
        }
        if (how < 14) {
            return "abcABAB".charAt(random.nextInt(7)) + "=" + expression(3, open) + ";";
        }
        if (how < 19) {
            return "ffgu".charAt(random.nextInt(4)) + expression(2, open) + ";";
        }
        return "nxq".charAt(random.nextInt(3)) + ";";
    }

    private String block(int open) {
        return "{" + statements(random.nextInt(4), open + 1) + "}";
    }

    private String expression(int size, int open) {
        StringBuilder text = new StringBuilder();
        boolean mayCompare = true;
        for (int count = random.nextInt(size); count >= 0; count--) {
            text.append(factor(size, open));
            if (count > 0) {
                String operators = mayCompare ? "+-*/%&|=<>" : "+-*/%&|";
                char operator = operators.charAt(random.nextInt(operators.length()));
                mayCompare = operator == '&' || operator == '|' || mayCompare && "=<>".indexOf(operator) < 0;
                text.append(operator);
            }
        }
        return text.toString();
    }

    private String factor(int size, int open) {
        int how = random.nextInt(12);
        if (how == 0) {
            return "-" + factor(size, open);
        }
        if (how == 1) {
            return "!" + factor(size, open);
        }
        if (how < 4 && open < 8 && size > 1) {
            return "(" + expression(size, open + 1) + ")";
        }
        if (how < 8) {
            return "" + NAMES.charAt(random.nextInt(NAMES.length()));
        }
        return "" + random.nextInt(new int[] {4, 10, 100, 1000}[random.nextInt(4)]);
    }
}
