import java.util.regex.Pattern;

/** The grammar once more, by rewriting texts: slow, and with no thought in common with the program's own. */
final class Grammar {
    // N stands for an expression in ( and ), K for a block: neither is a sign of the language.
    private static final String FACTOR = "[-!]*(?:[0-9]{1,3}|[abcABszdkhN])";
    private static final String PRODUCT = FACTOR + "(?:[*/%]" + FACTOR + ")*";
    private static final String SUM = PRODUCT + "(?:[-+]" + PRODUCT + ")*";
    private static final String COMPARISON = SUM + "(?:[=<>]" + SUM + ")?";
    private static final String CONJUNCTION = COMPARISON + "(?:&" + COMPARISON + ")*";
    private static final String EXPRESSION = CONJUNCTION + "(?:\\|" + CONJUNCTION + ")*";
    private static final String STATEMENTS = "(?:\\?" + EXPRESSION + "K(?::K)?|@" + EXPRESSION + "K|[abcAB]=" + EXPRESSION
        + ";|[fgu]" + EXPRESSION + ";|[nxq];)*";
    private static final Pattern IN_BRACKETS = Pattern.compile("\\(" + EXPRESSION + "\\)");
    private static final Pattern BLOCK = Pattern.compile("\\{" + STATEMENTS + "\\}");
    private static final Pattern PROGRAM = Pattern.compile(STATEMENTS);

    private Grammar() {
    }

    static int faultOf(String draft) {
        for (int place = 0; place < draft.length(); place++) {
            boolean isOneMore = "({".indexOf(draft.charAt(place)) >= 0;
            if (isOneMore && openIn(draft.substring(0, place)) >= 8 || !canGoOn(draft.substring(0, place + 1))) {
                return place;
            }
        }
        return isProgram(draft) ? -1 : draft.length();
    }

    private static boolean isProgram(String text) {
        String old;
        String now = text;
        do {
            old = now;
            now = BLOCK.matcher(IN_BRACKETS.matcher(now).replaceAll("N")).replaceAll("K");
        } while (!now.equals(old));
        return PROGRAM.matcher(now).matches();
    }

    private static boolean canGoOn(String begun) {
        int brackets = Math.max(0, count(begun, '(') - count(begun, ')'));
        int braces = Math.max(0, count(begun, '{') - count(begun, '}'));
        for (String middle : new String[] {"", "1", "=1"}) {
            for (String end : new String[] {"", ";", "{}"}) {
                if (isProgram(begun + middle + ")".repeat(brackets) + end + "}".repeat(braces))) {
                    return true;
                }
            }
        }
        return false;
    }

    private static int openIn(String text) {
        return count(text, '(') - count(text, ')') + count(text, '{') - count(text, '}');
    }

    private static int count(String text, char sign) {
        return (int) text.chars().filter(one -> one == sign).count();
    }
}
