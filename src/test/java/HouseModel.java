import java.util.ArrayDeque;
import java.util.ArrayList;
import java.util.Arrays;
import java.util.Deque;
import java.util.HashMap;
import java.util.List;
import java.util.Map;

/** The document once more, in lists and trees, with the calls of the face by the same names. */
final class HouseModel {
    /** A run that is over: 1 by n, 2 by x, 3 by q, 4 broken off. */
    private static final class Over extends RuntimeException {
        final int how;

        Over(int how) {
            super(null, null, false, false);
            this.how = how;
        }
    }

    private static final class Work {
        final Map<Character, Integer> names = new HashMap<>();
        int folder;
        int flags;
        int left;

        void step() {
            if (left == 0) {
                throw new Over(4);
            }
            left--;
        }
    }

    private interface Value {
        int of(Work work);
    }

    private interface Deed {
        void on(Work work);
    }

    private static final class RuleModel {
        int scope;
        boolean aside;
        int a;
        int b;
        int strikes;
        int runs;
        int broken;
        int steps;
        int most;
        final List<String> texts = new ArrayList<>();
        final Deque<Integer> line = new ArrayDeque<>();
    }

    private static final class LetterModel {
        int sender;
        int size;
        int doubt;
        int kind;
        int state;
        int folder = -1;
        int meant;
        int flags;
        int cost;
        int from;
        final List<int[]> way = new ArrayList<>();
    }

    private String draft = "";
    private final List<RuleModel> rules = new ArrayList<>();
    private final List<LetterModel> letters = new ArrayList<>();
    private final List<String> programs = new ArrayList<>();
    private final int[] trusts = new int[16];
    private final int[] quotas = {500, 500, 500, 500, 500};
    private int budget = 300;
    private int bound = 2;
    private int hour = 0;

    HouseModel() {
        Arrays.fill(trusts, 80);
    }

    public int type(char first, char second, char third, char fourth) {
        String more = ("" + first + second + third + fourth).replace(" ", "");
        argument(more.matches("[0-9abcdfghknqsuxzAB?:@{}();=<>+*/%!&|-]*"));
        state(draft.length() + more.length() <= 160);
        draft += more;
        return draft.length();
    }

    public int wipe() {
        int had = draft.length();
        draft = "";
        return had;
    }

    public int fault() {
        return Grammar.faultOf(draft);
    }

    public int addRule(int scope) {
        argument(scope >= 1 && scope <= 1023 && fault() == -1);
        state(rules.size() < 8);
        RuleModel rule = new RuleModel();
        rule.scope = scope;
        rules.add(rule);
        putVersion(rule);
        return rules.size() - 1;
    }

    public int mend(int number) {
        RuleModel rule = rule(number);
        argument(fault() == -1);
        state(rule.texts.size() < 6);
        putVersion(rule);
        rule.a = 0;
        rule.b = 0;
        return activate(number);
    }

    public int wake(int number) {
        state(rule(number).aside);
        return activate(number);
    }

    public int setAside(int number) {
        state(!rule(number).aside);
        rule(number).aside = true;
        return rule(number).strikes;
    }

    public int setBudget(int steps, int strikes) {
        argument(steps >= 0 && steps <= 2000 && strikes >= 1 && strikes <= 5);
        int before = budget;
        budget = steps;
        bound = strikes;
        return before;
    }

    public int arrive(int sender, int size, int doubt, int kind) {
        index(sender, 16);
        argument(size >= 1 && size <= 200 && doubt >= 0 && doubt <= 100 && kind >= 0 && kind <= 9);
        state(letters.size() < 60);
        LetterModel letter = new LetterModel();
        letter.sender = sender;
        letter.size = size;
        letter.doubt = doubt;
        letter.kind = kind;
        letters.add(letter);
        if (doubt > trusts[sender]) {
            letter.state = 1;
        } else {
            goOn(letters.size() - 1, 0);
        }
        return letters.size() - 1;
    }

    public int release(int number) {
        LetterModel letter = letter(number);
        state(letter.state == 1);
        trusts[letter.sender] = Math.min(100, trusts[letter.sender] + 5);
        goOn(number, letter.from);
        return letter.state;
    }

    public int discard(int number) {
        LetterModel letter = letter(number);
        state(letter.state == 1);
        letter.state = 3;
        trusts[letter.sender] = Math.max(0, trusts[letter.sender] - 20);
        return trusts[letter.sender];
    }

    public int take(int number) {
        LetterModel letter = letter(number);
        state(letter.state == 0);
        int folder = letter.folder;
        letter.state = 4;
        letter.folder = -1;
        return folder;
    }

    public int setTrust(int sender, int trust) {
        index(sender, 16);
        argument(trust >= 0 && trust <= 100);
        int before = trusts[sender];
        trusts[sender] = trust;
        return before;
    }

    public int setQuota(int folder, int quota) {
        index(folder, 5);
        argument(quota >= 0 && quota <= 2000);
        int before = quotas[folder];
        quotas[folder] = quota;
        return before;
    }

    public int pass(int hours) {
        argument(hours >= 1 && hours <= 100);
        state(hour + hours <= 10000);
        hour += hours;
        return hour;
    }

    public int hour() {
        return hour;
    }

    public int length() {
        return draft.length();
    }

    public int rules() {
        return rules.size();
    }

    public int programs() {
        return programs.size();
    }

    public boolean isAside(int rule) {
        return rule(rule).aside;
    }

    public int versions(int rule) {
        return rule(rule).texts.size();
    }

    public int programOf(int rule, int version) {
        List<String> texts = rule(rule).texts;
        index(version, texts.size());
        return programs.indexOf(texts.get(version));
    }

    public int memory(int rule, boolean isSecond) {
        return isSecond ? rule(rule).b : rule(rule).a;
    }

    public int strikes(int rule) {
        return rule(rule).strikes;
    }

    public int runs(int rule, boolean isBroken) {
        return isBroken ? rule(rule).broken : rule(rule).runs;
    }

    public int steps(int rule) {
        return rule(rule).steps;
    }

    public int most(int rule) {
        return rule(rule).most;
    }

    public int waiting(int rule) {
        return rule(rule).line.size();
    }

    public int waitingAt(int rule, int place) {
        List<Integer> line = new ArrayList<>(rule(rule).line);
        argument(place >= 0);
        return place < line.size() ? line.get(place) : -1;
    }

    public int letters() {
        return letters.size();
    }

    public int state(int letter) {
        return letter(letter).state;
    }

    public int folderOf(int letter) {
        return letter(letter).folder;
    }

    public int meantFor(int letter) {
        return letter(letter).meant;
    }

    public int flags(int letter) {
        return letter(letter).flags;
    }

    public int cost(int letter) {
        return letter(letter).cost;
    }

    public int way(int letter) {
        return letter(letter).way.size();
    }

    public int wayRule(int letter, int run) {
        index(run, letter(letter).way.size());
        return letter(letter).way.get(run)[0];
    }

    public int wayEnd(int letter, int run) {
        index(run, letter(letter).way.size());
        return letter(letter).way.get(run)[1];
    }

    public int meantAnew(int letter) {
        return meantFor(letter);
    }

    public int flagsAnew(int letter) {
        return flags(letter);
    }

    public int costAnew(int letter) {
        return cost(letter);
    }

    public int endAnew(int letter, int run) {
        return wayEnd(letter, run);
    }

    public int load(int folder) {
        index(folder, 6);
        return letters.stream().filter(letter -> letter.folder == folder).mapToInt(letter -> letter.size).sum();
    }

    public int trust(int sender) {
        index(sender, 16);
        return trusts[sender];
    }

    private static void argument(boolean isFit) {
        if (!isFit) {
            throw new IllegalArgumentException();
        }
    }

    private static void state(boolean isFit) {
        if (!isFit) {
            throw new IllegalStateException();
        }
    }

    private static void index(int index, int count) {
        if (index < 0 || index >= count) {
            throw new IndexOutOfBoundsException();
        }
    }

    private RuleModel rule(int number) {
        index(number, rules.size());
        return rules.get(number);
    }

    private LetterModel letter(int number) {
        index(number, letters.size());
        return letters.get(number);
    }

    private void putVersion(RuleModel rule) {
        rule.texts.add(draft);
        if (!programs.contains(draft)) {
            programs.add(draft);
        }
        draft = "";
    }

    private int activate(int number) {
        RuleModel rule = rules.get(number);
        List<Integer> before = new ArrayList<>(rule.line);
        rule.aside = false;
        rule.strikes = 0;
        while (!rule.aside && !rule.line.isEmpty()) {
            goOn(rule.line.removeFirst(), number);
        }
        before.removeAll(rule.line);
        return before.size();
    }

    private void goOn(int number, int from) {
        LetterModel letter = letters.get(number);
        if (from == rules.size()) {
            file(letter);
            return;
        }
        RuleModel rule = rules.get(from);
        if ((rule.scope & 1 << letter.kind) == 0) {
            goOn(number, from + 1);
            return;
        }
        int how = rule.aside ? 4 : runOn(rule, letter);
        if (rule.aside) {
            letter.state = 2;
            rule.line.addLast(number);
        } else if (how == 3) {
            letter.state = 1;
            letter.from = from + 1;
        } else if (how == 2) {
            file(letter);
        } else {
            goOn(number, from + 1);
        }
    }

    private int runOn(RuleModel rule, LetterModel letter) {
        int limit = Math.max(0, budget - letter.cost);
        Work work = new Work();
        work.left = limit;
        work.folder = letter.meant;
        work.flags = letter.flags;
        int[] values = {0, 0, 0, rule.a, rule.b, letter.sender, letter.size, letter.doubt, letter.kind, hour % 24};
        for (int name = 0; name < 10; name++) {
            work.names.put("abcABszdkh".charAt(name), values[name]);
        }
        int how = 0;
        try {
            statements(rule.texts.get(rule.texts.size() - 1)).on(work);
        } catch (Over over) {
            how = over.how;
        }
        int done = limit - work.left;
        letter.way.add(new int[] {rules.indexOf(rule), how});
        rule.runs++;
        rule.steps += done;
        rule.most = Math.max(rule.most, done);
        if (how == 4) {
            rule.broken++;
            rule.strikes++;
            rule.aside = rule.strikes >= bound;
        } else {
            rule.strikes = 0;
            rule.a = work.names.get('A');
            rule.b = work.names.get('B');
            letter.meant = work.folder;
            letter.flags = work.flags;
            letter.cost += done;
        }
        return how;
    }

    private void file(LetterModel letter) {
        int folder = letter.meant;
        while (folder < 5 && load(folder) + letter.size > quotas[folder]) {
            folder++;
        }
        letter.folder = folder;
        letter.state = 0;
    }

    // ---- texts as trees

    private static int endOf(String text, int from, char begin, char end) {
        int open = 0;
        for (int place = from;; place++) {
            if (text.charAt(place) == begin) {
                open++;
            }
            if (text.charAt(place) == end && --open == 0) {
                return place;
            }
        }
    }

    private static Deed statements(String text) {
        List<Deed> row = new ArrayList<>();
        int at = 0;
        while (at < text.length()) {
            char first = text.charAt(at);
            if (first == '?' || first == '@') {
                int begin = text.indexOf('{', at);
                int end = endOf(text, begin, '{', '}');
                Value value = either(text.substring(at + 1, begin));
                Deed block = statements(text.substring(begin + 1, end));
                Deed other = work -> { };
                at = end + 1;
                if (first == '?' && at < text.length() && text.charAt(at) == ':') {
                    end = endOf(text, at + 1, '{', '}');
                    other = statements(text.substring(at + 2, end));
                    at = end + 1;
                }
                row.add(first == '?' ? choice(value, block, other) : loop(value, block));
            } else {
                int end = text.indexOf(';', at);
                row.add(simple(first, text.substring(at + 1, end)));
                at = end + 1;
            }
        }
        return work -> row.forEach(deed -> {
            work.step();
            deed.on(work);
        });
    }

    private static Deed choice(Value value, Deed block, Deed other) {
        return work -> (value.of(work) != 0 ? block : other).on(work);
    }

    private static Deed loop(Value value, Deed block) {
        return work -> {
            for (int left = value.of(work); left >= 1; left--) {
                work.step();
                block.on(work);
            }
        };
    }

    private static Deed simple(char first, String rest) {
        if ("nxq".indexOf(first) >= 0) {
            return work -> {
                throw new Over("nxq".indexOf(first) + 1);
            };
        }
        if ("fgu".indexOf(first) < 0) {
            Value value = either(rest.substring(1));
            return work -> work.names.put(first, value.of(work));
        }
        Value value = either(rest);
        return work -> {
            int number = value.of(work);
            if (first == 'f' && number >= 0 && number <= 5) {
                work.folder = number;
            } else if (first != 'f' && number >= 0 && number <= 3) {
                int without = work.flags & 15 - (1 << number);
                work.flags = first == 'g' ? without + (1 << number) : without;
            }
        };
    }

    /** The last place outside of brackets with an operator between two parts; -1 if there is none. */
    private static int splitAt(String text, String operators) {
        int open = 0;
        for (int place = text.length() - 1; place > 0; place--) {
            char sign = text.charAt(place);
            open += sign == ')' ? 1 : sign == '(' ? -1 : 0;
            char before = text.charAt(place - 1);
            boolean isBetween = Character.isLetterOrDigit(before) || before == ')';
            if (open == 0 && isBetween && operators.indexOf(sign) >= 0) {
                return place;
            }
        }
        return -1;
    }

    private static Value either(String text) {
        int at = splitAt(text, "|");
        if (at < 0) {
            return both(text);
        }
        Value left = either(text.substring(0, at));
        Value right = both(text.substring(at + 1));
        return work -> {
            int first = left.of(work);
            work.step();
            return first != 0 || right.of(work) != 0 ? 1 : 0;
        };
    }

    private static Value both(String text) {
        int at = splitAt(text, "&");
        if (at < 0) {
            return reckoned(text, 0);
        }
        Value left = both(text.substring(0, at));
        Value right = reckoned(text.substring(at + 1), 0);
        return work -> {
            int first = left.of(work);
            work.step();
            return first != 0 && right.of(work) != 0 ? 1 : 0;
        };
    }

    private static Value reckoned(String text, int level) {
        if (level == 3) {
            return factor(text);
        }
        int at = splitAt(text, new String[] {"=<>", "+-", "*/%"}[level]);
        if (at < 0) {
            return reckoned(text, level + 1);
        }
        char operator = text.charAt(at);
        Value left = reckoned(text.substring(0, at), level);
        Value right = reckoned(text.substring(at + 1), level + 1);
        return work -> {
            int first = left.of(work);
            int second = right.of(work);
            work.step();
            return result(operator, first, second);
        };
    }

    private static int result(char operator, int first, int second) {
        switch (operator) {
            case '+': return held(first + second);
            case '-': return held(first - second);
            case '*': return held(first * second);
            case '/': return second == 0 ? 0 : Integer.signum(first) * Integer.signum(second) * (Math.abs(first) / Math.abs(second));
            case '%': return second == 0 ? 0 : Integer.signum(first) * (Math.abs(first) % Math.abs(second));
            case '=': return first == second ? 1 : 0;
            case '<': return first < second ? 1 : 0;
            default: return first > second ? 1 : 0;
        }
    }

    private static int held(int value) {
        return value > 9999 ? 9999 : value < -9999 ? -9999 : value;
    }

    private static Value factor(String text) {
        char first = text.charAt(0);
        if (first == '(') {
            return either(text.substring(1, text.length() - 1));
        }
        if (first == '-' || first == '!') {
            Value inner = factor(text.substring(1));
            return work -> {
                int value = inner.of(work);
                work.step();
                return first == '-' ? held(-value) : value == 0 ? 1 : 0;
            };
        }
        return work -> {
            work.step();
            return Character.isDigit(first) ? Integer.parseInt(text) : work.names.get(first);
        };
    }
}
