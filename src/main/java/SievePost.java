import java.util.ArrayList;

/** A mail house: rules, which are small programs, are run on letters one behind the other. */
public final class SievePost {
    private static final int MOST_SIGNS = 160;
    private static final int MOST_OPEN = 8;
    private static final int MOST_RULES = 8;
    private static final int MOST_VERSIONS = 6;
    private static final int MOST_PROGRAMS = 48;
    private static final int MOST_LETTERS = 60;
    // A letter is run anew by the same rule only behind a call that woke or mended this rule, so the
    // 512 calls that the document counts can't make so many runs, whatever they are.
    private static final int MOST_RUNS = 1000;
    private static final int MOST_BUDGET = 2000;
    private static final int MOST_STRIKES = 5;
    private static final int MOST_SIZE = 200;
    private static final int MOST_DOUBT = 100;
    private static final int MOST_TRUST = 100;
    private static final int MOST_QUOTA = 2000;
    private static final int MOST_PASS = 100;
    private static final int LAST_HOUR = 10000;
    private static final int HOURS_A_DAY = 24;
    private static final int KINDS = 10;
    private static final int ALL_KINDS = 1023;
    private static final int SENDERS = 16;
    private static final int FOLDERS = 6;
    private static final int QUOTAS = 5;
    private static final int FLAGS = 4;
    private static final int HELD = 9999;
    private static final int MOST_DIGITS = 3;
    private static final int FIRST_BUDGET = 300;
    private static final int FIRST_BOUND = 2;
    private static final int FIRST_TRUST = 80;
    private static final int FIRST_QUOTA = 500;
    private static final int RELEASE_GAIN = 5;
    private static final int DISCARD_LOSS = 20;

    private static final int FILED = 0;
    private static final int QUARANTINED = 1;
    private static final int WAITS = 2;
    private static final int DISCARDED = 3;
    private static final int TAKEN = 4;

    private static final int GOES_ON = -1;
    private static final int ENDED = 0;
    private static final int ENDED_BY_X = 2;
    private static final int ENDED_BY_Q = 3;
    private static final int BROKEN_OFF = 4;

    private static final char BLANK = ' ';
    private static final char NO_SIGN = (char) 0;
    private static final String SIGNS = "0123456789abcdfghknqsuxzAB?:@{}();=<>+-*/%!&|";
    private static final String DIGITS = "0123456789";
    private static final String NAMES = "abcABszdkh";
    private static final String VARIABLES = "abcAB";
    private static final String EFFECTS = "fgu";
    private static final String ENDINGS = "nxq";
    private static final int NAME_FIRST = 3;
    private static final int NAME_SECOND = 4;
    private static final int NAME_SENDER = 5;
    private static final int NAME_SIZE = 6;
    private static final int NAME_DOUBT = 7;
    private static final int NAME_KIND = 8;
    private static final int NAME_HOUR = 9;

    // How tightly the operators between two parts bind.
    private static final int NO_OPERATOR = -1;
    private static final int EITHER = 0;
    private static final int BOTH = 1;
    private static final int COMPARISON = 2;
    private static final int SUM = 3;
    private static final int PRODUCT = 4;

    // The codes below FREE cost one step each; those from it on cost none.
    private static final int STEP = 0;
    private static final int NUMBER = 1;
    private static final int NAME = 2;
    private static final int TWO = 3;
    private static final int ONE = 4;
    private static final int AND = 5;
    private static final int OR = 6;
    private static final int FREE = 7;
    private static final int TRUTH = 7;
    private static final int UNLESS = 8;
    private static final int JUMP = 9;
    private static final int REPEAT = 10;
    private static final int SET = 11;
    private static final int EFFECT = 12;
    private static final int END = 13;
    // 8 loops and the left sides in 9 expressions, one in the other, need less than 40.
    private static final int MOST_STACK = 64;
    // Codes without a step come between those with one, of which a run has at most 2000.
    private static final int MOST_TURNS = 1000000;

    private final StringBuilder draft = new StringBuilder();
    private final Compiler compiler = new Compiler();
    private final Machine machine = new Machine();
    private final TextReader reader = new TextReader();
    private final Program[] allPrograms = new Program[MOST_PROGRAMS];
    private final Rule[] allRules = new Rule[MOST_RULES];
    private final Letter[] allLetters = new Letter[MOST_LETTERS];
    private final int[] trusts = new int[SENDERS];
    private final int[] quotas = new int[QUOTAS];
    private final int[] loads = new int[FOLDERS];
    private int programCount = 0;
    private int ruleCount = 0;
    private int letterCount = 0;
    private int budget = FIRST_BUDGET;
    private int bound = FIRST_BOUND;
    private int now = 0;

    public SievePost() {
        for (int sender = 0; sender < trusts.length; sender++) {
            trusts[sender] = FIRST_TRUST;
        }
        for (int folder = 0; folder < quotas.length; folder++) {
            quotas[folder] = FIRST_QUOTA;
        }
    }

    // ---- the draft

    public int type(char first, char second, char third, char fourth)
            throws IllegalArgumentException, IllegalStateException {
        if (!isTypable(first) || !isTypable(second) || !isTypable(third) || !isTypable(fourth)) {
            throw new IllegalArgumentException("no sign of the language and no blank");
        }
        int more = signsIn(first) + signsIn(second) + signsIn(third) + signsIn(fourth);
        if (draft.length() + more > MOST_SIGNS) {
            throw new IllegalStateException("the draft would be too long");
        }
        putSign(first);
        putSign(second);
        putSign(third);
        putSign(fourth);
        return draft.length();
    }

    public int wipe() {
        int had = draft.length();
        draft.setLength(0);
        return had;
    }

    public int fault() {
        return compiler.compile(draft.toString());
    }

    // ---- rules

    public int addRule(int scope) throws IllegalArgumentException, IllegalStateException {
        if (scope < 1 || scope > ALL_KINDS || compiler.compile(draft.toString()) >= 0) {
            throw new IllegalArgumentException("the scope is out of range, or the draft is no program");
        }
        if (ruleCount >= allRules.length) {
            throw new IllegalStateException("there are 8 rules");
        }
        int number = ruleCount;
        Rule made = new Rule(number, scope);
        made.addVersion(programOfDraft());
        allRules[number] = made;
        ruleCount++;
        draft.setLength(0);
        return number;
    }

    public int mend(int rule)
            throws IndexOutOfBoundsException, IllegalArgumentException, IllegalStateException {
        Rule mended = ruleAt(rule);
        if (compiler.compile(draft.toString()) >= 0) {
            throw new IllegalArgumentException("the draft is no program");
        }
        if (mended.versionCount >= MOST_VERSIONS) {
            throw new IllegalStateException("the rule has 6 versions");
        }
        mended.addVersion(programOfDraft());
        mended.first = 0;
        mended.second = 0;
        draft.setLength(0);
        return rouse(mended);
    }

    public int wake(int rule) throws IndexOutOfBoundsException, IllegalStateException {
        Rule woken = ruleAt(rule);
        if (!woken.aside) {
            throw new IllegalStateException("the rule is active");
        }
        return rouse(woken);
    }

    public int setAside(int rule) throws IndexOutOfBoundsException, IllegalStateException {
        Rule put = ruleAt(rule);
        if (put.aside) {
            throw new IllegalStateException("the rule is set aside");
        }
        put.aside = true;
        return put.strikeCount;
    }

    public int setBudget(int steps, int strikes) throws IllegalArgumentException {
        if (steps < 0 || steps > MOST_BUDGET || strikes < 1 || strikes > MOST_STRIKES) {
            throw new IllegalArgumentException("steps or strikes is out of range");
        }
        int before = budget;
        budget = steps;
        bound = strikes;
        return before;
    }

    // ---- letters and folders

    public int arrive(int sender, int size, int doubt, int kind)
            throws IndexOutOfBoundsException, IllegalArgumentException, IllegalStateException {
        int trusted = trustOf(sender);
        if (size < 1 || size > MOST_SIZE || doubt < 0 || doubt > MOST_DOUBT || kind < 0 || kind >= KINDS) {
            throw new IllegalArgumentException("size, doubt or kind is out of range");
        }
        if (letterCount >= allLetters.length) {
            throw new IllegalStateException("there are 60 letters");
        }
        int number = letterCount;
        Letter come = new Letter(number, sender, size, doubt, kind);
        allLetters[number] = come;
        letterCount++;
        if (doubt > trusted) {
            come.stateNow = QUARANTINED;
        } else {
            goOn(come, 0);
        }
        return number;
    }

    public int release(int letter) throws IndexOutOfBoundsException, IllegalStateException {
        Letter released = quarantined(letter);
        changeTrust(released.sender, RELEASE_GAIN);
        goOn(released, released.nextRule);
        return released.stateNow;
    }

    public int discard(int letter) throws IndexOutOfBoundsException, IllegalStateException {
        Letter discarded = quarantined(letter);
        discarded.stateNow = DISCARDED;
        changeTrust(discarded.sender, -DISCARD_LOSS);
        return trustOf(discarded.sender);
    }

    public int take(int letter) throws IndexOutOfBoundsException, IllegalStateException {
        Letter taken = letterAt(letter);
        if (taken.stateNow != FILED) {
            throw new IllegalStateException("the letter is not filed");
        }
        int folder = taken.folder;
        addLoad(folder, -taken.size);
        taken.stateNow = TAKEN;
        taken.folder = -1;
        return folder;
    }

    public int setTrust(int sender, int trust) throws IndexOutOfBoundsException, IllegalArgumentException {
        int before = trustOf(sender);
        if (trust < 0 || trust > MOST_TRUST) {
            throw new IllegalArgumentException("trust is out of range");
        }
        changeTrust(sender, trust - before);
        return before;
    }

    public int setQuota(int folder, int quota) throws IndexOutOfBoundsException, IllegalArgumentException {
        if (folder < 0 || folder >= quotas.length) {
            throw new IndexOutOfBoundsException("no such folder with a quota");
        }
        if (quota < 0 || quota > MOST_QUOTA) {
            throw new IllegalArgumentException("quota is out of range");
        }
        int before = quotas[folder];
        quotas[folder] = quota;
        return before;
    }

    public int pass(int hours) throws IllegalArgumentException, IllegalStateException {
        if (hours < 1 || hours > MOST_PASS) {
            throw new IllegalArgumentException("hours is out of range");
        }
        if (now + hours > LAST_HOUR) {
            throw new IllegalStateException("the hour would be above 10000");
        }
        now += hours;
        return now;
    }

    // ---- rules as they are; nothing from here on changes anything

    public int hour() {
        return now;
    }

    public int length() {
        return draft.length();
    }

    public int rules() {
        return ruleCount;
    }

    public int programs() {
        return programCount;
    }

    public boolean isAside(int rule) throws IndexOutOfBoundsException {
        return ruleAt(rule).aside;
    }

    public int versions(int rule) throws IndexOutOfBoundsException {
        return ruleAt(rule).versionCount;
    }

    public int programOf(int rule, int version) throws IndexOutOfBoundsException {
        Program found = ruleAt(rule).versionAt(version);
        if (found == null) {
            throw new IndexOutOfBoundsException("no such version");
        }
        return found.number;
    }

    public int memory(int rule, boolean isSecond) throws IndexOutOfBoundsException {
        Rule asked = ruleAt(rule);
        return isSecond ? asked.second : asked.first;
    }

    public int strikes(int rule) throws IndexOutOfBoundsException {
        return ruleAt(rule).strikeCount;
    }

    public int runs(int rule, boolean isBroken) throws IndexOutOfBoundsException {
        Rule asked = ruleAt(rule);
        return isBroken ? asked.brokenCount : asked.runCount;
    }

    public int steps(int rule) throws IndexOutOfBoundsException {
        return ruleAt(rule).stepSum;
    }

    public int most(int rule) throws IndexOutOfBoundsException {
        return ruleAt(rule).stepsAtMost;
    }

    public int waiting(int rule) throws IndexOutOfBoundsException {
        return ruleAt(rule).waitCount;
    }

    public int waitingAt(int rule, int place) throws IndexOutOfBoundsException, IllegalArgumentException {
        Rule asked = ruleAt(rule);
        if (place < 0) {
            throw new IllegalArgumentException("place is below 0");
        }
        Letter found = asked.letterInLine(place);
        return found == null ? -1 : found.number;
    }

    // ---- letters as they are

    public int letters() {
        return letterCount;
    }

    public int state(int letter) throws IndexOutOfBoundsException {
        return letterAt(letter).stateNow;
    }

    public int folderOf(int letter) throws IndexOutOfBoundsException {
        return letterAt(letter).folder;
    }

    public int meantFor(int letter) throws IndexOutOfBoundsException {
        return letterAt(letter).meant;
    }

    public int flags(int letter) throws IndexOutOfBoundsException {
        return letterAt(letter).raised;
    }

    public int cost(int letter) throws IndexOutOfBoundsException {
        return letterAt(letter).spent;
    }

    public int way(int letter) throws IndexOutOfBoundsException {
        return letterAt(letter).path.size();
    }

    public int wayRule(int letter, int run) throws IndexOutOfBoundsException {
        return runAt(letterAt(letter), run).rule;
    }

    public int wayEnd(int letter, int run) throws IndexOutOfBoundsException {
        return runAt(letterAt(letter), run).end;
    }

    // ---- ways told once more from the texts

    public int meantAnew(int letter) throws IndexOutOfBoundsException {
        return retold(letterAt(letter)).meant;
    }

    public int flagsAnew(int letter) throws IndexOutOfBoundsException {
        return retold(letterAt(letter)).raised;
    }

    public int costAnew(int letter) throws IndexOutOfBoundsException {
        return retold(letterAt(letter)).spent;
    }

    public int endAnew(int letter, int run) throws IndexOutOfBoundsException {
        Letter asked = letterAt(letter);
        Run told = runAt(asked, run);
        // No program can read the folder or the flags, so one run is told without those ahead of it.
        reader.begin(asked, told);
        reader.run(told.program);
        return reader.end;
    }

    // ---- folders and senders

    public int load(int folder) throws IndexOutOfBoundsException {
        if (folder < 0 || folder >= loads.length) {
            throw new IndexOutOfBoundsException("no such folder");
        }
        return loads[folder];
    }

    public int trust(int sender) throws IndexOutOfBoundsException {
        return trustOf(sender);
    }

    // ---- what the face is made of

    private static boolean isTypable(char sign) {
        return sign == BLANK || SIGNS.indexOf(sign) >= 0;
    }

    private static int signsIn(char sign) {
        return sign == BLANK ? 0 : 1;
    }

    private void putSign(char sign) {
        if (sign != BLANK) {
            draft.append(sign);
        }
    }

    private Rule ruleAt(int rule) {
        if (rule < 0 || rule >= ruleCount || rule >= allRules.length) {
            throw new IndexOutOfBoundsException("no such rule");
        }
        Rule found = allRules[rule];
        if (found == null) {
            throw new IndexOutOfBoundsException("no such rule");
        }
        return found;
    }

    private Letter letterAt(int letter) {
        if (letter < 0 || letter >= letterCount || letter >= allLetters.length) {
            throw new IndexOutOfBoundsException("no such letter");
        }
        Letter found = allLetters[letter];
        if (found == null) {
            throw new IndexOutOfBoundsException("no such letter");
        }
        return found;
    }

    private Letter quarantined(int letter) {
        Letter found = letterAt(letter);
        if (found.stateNow != QUARANTINED) {
            throw new IllegalStateException("the letter is not in quarantine");
        }
        return found;
    }

    private static Run runAt(Letter letter, int run) {
        if (run < 0 || run >= letter.path.size()) {
            throw new IndexOutOfBoundsException("no such run");
        }
        Run found = letter.path.get(run);
        if (found == null) {
            throw new IndexOutOfBoundsException("no such run");
        }
        return found;
    }

    private int trustOf(int sender) {
        if (sender < 0 || sender >= trusts.length) {
            throw new IndexOutOfBoundsException("no such sender");
        }
        return trusts[sender];
    }

    private void changeTrust(int sender, int by) {
        if (sender >= 0 && sender < trusts.length) {
            trusts[sender] = Math.max(0, Math.min(MOST_TRUST, trusts[sender] + by));
        }
    }

    private void addLoad(int folder, int size) {
        if (folder >= 0 && folder < loads.length) {
            loads[folder] += size;
        }
    }

    /** The program that the compiler has just read from the draft, which is an old one if the text is. */
    private Program programOfDraft() {
        String text = draft.toString();
        for (int number = 0; number < programCount && number < allPrograms.length; number++) {
            Program known = allPrograms[number];
            if (known != null && known.text.equals(text)) {
                return known;
            }
        }
        Program made = new Program(programCount, text, compiler.codesRead(), compiler.valuesRead());
        if (programCount < allPrograms.length) {
            allPrograms[programCount] = made;
            programCount++;
        }
        return made;
    }

    private int rouse(Rule rule) {
        int before = rule.waitCount;
        rule.aside = false;
        rule.strikeCount = 0;
        for (int turn = 0; turn < before && !rule.aside && rule.waitCount > 0; turn++) {
            Letter letter = rule.leaveLine();
            if (letter != null) {
                goOn(letter, rule.number);
            }
        }
        return before - rule.waitCount;
    }

    private void goOn(Letter letter, int from) {
        for (int number = Math.max(0, from); number < ruleCount && number < allRules.length; number++) {
            Rule rule = allRules[number];
            if (rule != null && rule.isFor(letter.kind)) {
                int end = rule.aside ? GOES_ON : runRule(rule, letter);
                if (rule.aside) {
                    letter.stateNow = WAITS;
                    rule.joinLine(letter);
                    return;
                }
                if (end == ENDED_BY_Q) {
                    letter.stateNow = QUARANTINED;
                    letter.nextRule = number + 1;
                    return;
                }
                if (end == ENDED_BY_X) {
                    break;
                }
            }
        }
        file(letter);
    }

    private int runRule(Rule rule, Letter letter) {
        int limit = Math.max(0, budget - letter.spent);
        Run run = new Run(rule, limit, now % HOURS_A_DAY);
        machine.begin(letter, run);
        machine.run(run.program);
        run.end = machine.end;
        if (letter.path.size() < MOST_RUNS) {
            letter.path.add(run);
        }
        rule.countRun(machine.stepsDone, machine.end == BROKEN_OFF, bound);
        if (machine.end != BROKEN_OFF) {
            rule.first = machine.nameAt(NAME_FIRST);
            rule.second = machine.nameAt(NAME_SECOND);
            machine.leaveOn(letter);
        }
        return machine.end;
    }

    private void file(Letter letter) {
        int folder = Math.max(0, letter.meant);
        while (folder < FOLDERS - 1 && !takes(folder, letter.size)) {
            folder++;
        }
        addLoad(folder, letter.size);
        letter.folder = folder;
        letter.stateNow = FILED;
    }

    private boolean takes(int folder, int size) {
        if (folder < 0 || folder >= quotas.length || folder >= loads.length) {
            return false;
        }
        return loads[folder] + size <= quotas[folder];
    }

    /** A letter like the one that is asked for, as it came in, on which its way is told from the texts. */
    private Letter retold(Letter letter) {
        Letter anew = new Letter(letter.number, letter.sender, letter.size, letter.doubt, letter.kind);
        for (int number = 0; number < letter.path.size(); number++) {
            Run run = letter.path.get(number);
            if (run != null) {
                reader.begin(anew, run);
                reader.run(run.program);
                if (reader.end != BROKEN_OFF) {
                    reader.leaveOn(anew);
                }
            }
        }
        return anew;
    }

    private static int levelOf(char sign) {
        if (sign == '|') {
            return EITHER;
        }
        if (sign == '&') {
            return BOTH;
        }
        if (sign == '=' || sign == '<' || sign == '>') {
            return COMPARISON;
        }
        if (sign == '+' || sign == '-') {
            return SUM;
        }
        if (sign == '*' || sign == '/' || sign == '%') {
            return PRODUCT;
        }
        return NO_OPERATOR;
    }

    private static boolean isAhead(char sign) {
        return sign == '-' || sign == '!';
    }

    private static int truthOf(int value) {
        return value != 0 ? 1 : 0;
    }

    private static int held(int value) {
        if (value > HELD) {
            return HELD;
        }
        return value < -HELD ? -HELD : value;
    }

    private static int resultOf(int operator, int only) {
        return operator == '-' ? held(-only) : 1 - truthOf(only);
    }

    private static int resultOf(int operator, int left, int right) {
        switch (operator) {
            case '+':
                return held(left + right);
            case '-':
                return held(left - right);
            case '*':
                return held(left * right);
            case '/':
                return right == 0 ? 0 : left / right;
            case '%':
                return right == 0 ? 0 : left % right;
            case '=':
                return left == right ? 1 : 0;
            case '<':
                return left < right ? 1 : 0;
            default:
                return left > right ? 1 : 0;
        }
    }

    /** A text that is a program, and the codes that it was compiled to. */
    private static final class Program {
        final int number;
        final String text;
        final int[] codes;
        final int[] values;

        Program(int number, String text, int[] codes, int[] values) {
            this.number = number;
            this.text = text;
            this.codes = codes;
            this.values = values;
        }
    }

    private static final class Rule {
        final int number;
        final int scope;
        final Program[] programRow = new Program[MOST_VERSIONS];
        final Letter[] line = new Letter[MOST_LETTERS];
        int versionCount = 0;
        int waitCount = 0;
        boolean aside = false;
        int first = 0;
        int second = 0;
        int strikeCount = 0;
        int runCount = 0;
        int brokenCount = 0;
        int stepSum = 0;
        int stepsAtMost = 0;

        Rule(int number, int scope) {
            this.number = number;
            this.scope = scope;
        }

        boolean isFor(int kind) {
            return (scope >> kind & 1) == 1;
        }

        void addVersion(Program program) {
            if (versionCount < programRow.length) {
                programRow[versionCount] = program;
                versionCount++;
            }
        }

        Program versionAt(int version) {
            if (version < 0 || version >= versionCount || version >= programRow.length) {
                return null;
            }
            return programRow[version];
        }

        void joinLine(Letter letter) {
            if (waitCount >= 0 && waitCount < line.length) {
                line[waitCount] = letter;
                waitCount++;
            }
        }

        /** Answers null if there are not so many. */
        Letter letterInLine(int place) {
            return place >= 0 && place < waitCount && place < line.length ? line[place] : null;
        }

        Letter leaveLine() {
            Letter letter = letterInLine(0);
            for (int place = 1; place < waitCount && place < line.length; place++) {
                line[place - 1] = line[place];
            }
            waitCount = Math.max(0, waitCount - 1);
            return letter;
        }

        void countRun(int stepsDone, boolean isBroken, int bound) {
            runCount++;
            stepSum += stepsDone;
            stepsAtMost = Math.max(stepsAtMost, stepsDone);
            if (!isBroken) {
                strikeCount = 0;
                return;
            }
            brokenCount++;
            strikeCount++;
            if (strikeCount >= bound) {
                aside = true;
            }
        }
    }

    private static final class Letter {
        final int number;
        final int sender;
        final int size;
        final int doubt;
        final int kind;
        final ArrayList<Run> path = new ArrayList<>();
        int stateNow = WAITS;
        int folder = -1;
        int meant = 0;
        int raised = 0;
        int spent = 0;
        int nextRule = 0;

        Letter(int number, int sender, int size, int doubt, int kind) {
            this.number = number;
            this.sender = sender;
            this.size = size;
            this.doubt = doubt;
            this.kind = kind;
        }
    }

    /** A run on the way of a letter, with all that it takes to tell it once more. */
    private static final class Run {
        final int rule;
        final Program program;
        final int first;
        final int second;
        final int limit;
        final int hourOfDay;
        int end = ENDED;

        Run(Rule rule, int limit, int hourOfDay) {
            this.rule = rule.number;
            this.program = rule.versionAt(rule.versionCount - 1);
            this.first = rule.first;
            this.second = rule.second;
            this.limit = limit;
            this.hourOfDay = hourOfDay;
        }
    }

    /** Reads a text by the grammar, finds its fault, and writes its codes. */
    private static final class Compiler {
        // No sign of a text is worth more than two codes, and one more ends the program.
        private final int[] codes = new int[2 * MOST_SIGNS + 1];
        private final int[] values = new int[2 * MOST_SIGNS + 1];
        private String text = "";
        private int place = 0;
        private int faultPlace = -1;
        private int codeCount = 0;

        /** Answers the place of the fault, or -1. */
        int compile(String read) {
            text = read;
            place = 0;
            faultPlace = -1;
            codeCount = 0;
            readStatements(0);
            if (place < text.length()) {
                fail();
            }
            emit(END, ENDED);
            return faultPlace;
        }

        int[] codesRead() {
            return rowRead(codes);
        }

        int[] valuesRead() {
            return rowRead(values);
        }

        private int[] rowRead(int[] row) {
            int[] read = new int[Math.max(0, codeCount)];
            for (int at = 0; at < read.length && at < row.length; at++) {
                read[at] = row[at];
            }
            return read;
        }

        private int emit(int code, int value) {
            int at = codeCount;
            if (at >= 0 && at < codes.length && at < values.length) {
                codes[at] = code;
                values[at] = value;
                codeCount++;
            }
            return at;
        }

        private void jumpToHere(int jump) {
            if (jump >= 0 && jump < values.length) {
                values[jump] = codeCount;
            }
        }

        // Behind a fault there are no more signs, so all that still reads comes to its end at once.
        private char sign() {
            return faultPlace < 0 && place >= 0 && place < text.length() ? text.charAt(place) : NO_SIGN;
        }

        private void fail() {
            if (faultPlace < 0) {
                faultPlace = place;
            }
        }

        private boolean accept(char wanted) {
            if (sign() != wanted) {
                return false;
            }
            place++;
            return true;
        }

        private void expect(char wanted) {
            if (sign() == wanted) {
                place++;
            } else {
                fail();
            }
        }

        private void readStatements(int open) {
            boolean isMore = true;
            for (int count = 0; count < MOST_SIGNS && isMore; count++) {
                isMore = readStatement(open);
            }
        }

        /** Reads one statement, if the next sign begins one. */
        private boolean readStatement(int open) {
            char first = sign();
            if (first == '?') {
                readChoice(open);
            } else if (first == '@') {
                readLoop(open);
            } else if (VARIABLES.indexOf(first) >= 0) {
                readSetting(open, NAMES.indexOf(first));
            } else if (EFFECTS.indexOf(first) >= 0) {
                readEffect(open, first);
            } else if (ENDINGS.indexOf(first) >= 0) {
                readEnding(ENDINGS.indexOf(first) + 1);
            } else {
                return false;
            }
            return faultPlace < 0;
        }

        private void readChoice(int open) {
            place++;
            emit(STEP, 0);
            readLevel(EITHER, open);
            int unless = emit(UNLESS, 0);
            readBlock(open);
            if (accept(':')) {
                int over = emit(JUMP, 0);
                jumpToHere(unless);
                readBlock(open);
                jumpToHere(over);
            } else {
                jumpToHere(unless);
            }
        }

        private void readLoop(int open) {
            place++;
            emit(STEP, 0);
            readLevel(EITHER, open);
            int repeat = emit(REPEAT, 0);
            emit(STEP, 0);
            readBlock(open);
            emit(JUMP, repeat);
            jumpToHere(repeat);
        }

        private void readSetting(int open, int name) {
            place++;
            emit(STEP, 0);
            expect('=');
            readLevel(EITHER, open);
            expect(';');
            emit(SET, name);
        }

        private void readEffect(int open, char effect) {
            place++;
            emit(STEP, 0);
            readLevel(EITHER, open);
            expect(';');
            emit(EFFECT, effect);
        }

        private void readEnding(int end) {
            place++;
            emit(STEP, 0);
            expect(';');
            emit(END, end);
        }

        private void readBlock(int open) {
            if (open >= MOST_OPEN) {
                fail();
                return;
            }
            expect('{');
            readStatements(open + 1);
            expect('}');
        }

        /** Reads parts that bind more tightly, with operators of a level between them. */
        private void readLevel(int level, int open) {
            if (level > PRODUCT) {
                readFactor(open);
                return;
            }
            readLevel(level + 1, open);
            int most = level == COMPARISON ? 1 : MOST_SIGNS;
            for (int count = 0; count < most && levelOf(sign()) == level; count++) {
                char operator = sign();
                place++;
                if (level <= BOTH) {
                    int jump = emit(level == BOTH ? AND : OR, 0);
                    readLevel(level + 1, open);
                    emit(TRUTH, 0);
                    jumpToHere(jump);
                } else {
                    readLevel(level + 1, open);
                    emit(TWO, operator);
                }
            }
        }

        // A row of signs ahead of a factor may be as long as the text: it takes no recursion.
        private void readFactor(int open) {
            int from = place;
            for (int count = 0; count < MOST_SIGNS && isAhead(sign()); count++) {
                place++;
            }
            int behind = place;
            readOperand(open);
            for (int at = behind - 1; at >= from && at >= 0 && at < text.length(); at--) {
                emit(ONE, text.charAt(at));
            }
        }

        private void readOperand(int open) {
            char first = sign();
            if (DIGITS.indexOf(first) >= 0) {
                readNumber();
            } else if (NAMES.indexOf(first) >= 0) {
                place++;
                emit(NAME, NAMES.indexOf(first));
            } else if (first == '(' && open < MOST_OPEN) {
                place++;
                readLevel(EITHER, open + 1);
                expect(')');
            } else {
                fail();
            }
        }

        private void readNumber() {
            int value = 0;
            for (int count = 0; count < MOST_DIGITS && DIGITS.indexOf(sign()) >= 0; count++) {
                value = 10 * value + DIGITS.indexOf(sign());
                place++;
            }
            emit(NUMBER, value);
        }
    }

    /** What one run of a program works on; how the program is done is told by those who extend it. */
    private abstract static class Runner {
        private final int[] names = new int[NAMES.length()];
        private int meant = 0;
        private int raised = 0;
        private int limit = 0;
        int stepsDone = 0;
        int end = GOES_ON;

        abstract void run(Program program);

        final void begin(Letter letter, Run run) {
            for (int name = 0; name < names.length; name++) {
                names[name] = 0;
            }
            setName(NAME_FIRST, run.first);
            setName(NAME_SECOND, run.second);
            setName(NAME_SENDER, letter.sender);
            setName(NAME_SIZE, letter.size);
            setName(NAME_DOUBT, letter.doubt);
            setName(NAME_KIND, letter.kind);
            setName(NAME_HOUR, run.hourOfDay);
            meant = letter.meant;
            raised = letter.raised;
            limit = run.limit;
            stepsDone = 0;
            end = GOES_ON;
        }

        final void leaveOn(Letter letter) {
            letter.meant = meant;
            letter.raised = raised;
            letter.spent += stepsDone;
        }

        /** Does one more step; answers false if there is none, as the run is over. */
        final boolean step() {
            if (end == GOES_ON && stepsDone >= limit) {
                end = BROKEN_OFF;
            }
            if (end != GOES_ON) {
                return false;
            }
            stepsDone++;
            return true;
        }

        final void finish(int how) {
            if (end == GOES_ON) {
                end = how;
            }
        }

        final int nameAt(int name) {
            return name >= 0 && name < names.length ? names[name] : 0;
        }

        final void setName(int name, int value) {
            if (name >= 0 && name < names.length) {
                names[name] = value;
            }
        }

        final void doEffect(int effect, int value) {
            if (effect == 'f' && value >= 0 && value < FOLDERS) {
                meant = value;
            }
            if (effect == 'g' && value >= 0 && value < FLAGS) {
                raised |= 1 << value;
            }
            if (effect == 'u' && value >= 0 && value < FLAGS) {
                raised &= ~(1 << value);
            }
        }
    }

    /** Runs the codes of a program. */
    private static final class Machine extends Runner {
        private final int[] stack = new int[MOST_STACK];
        private int height = 0;
        private int place = 0;

        void run(Program program) {
            height = 0;
            place = 0;
            for (int turn = 0; turn < MOST_TURNS && program != null && end == GOES_ON; turn++) {
                if (place < 0 || place >= program.codes.length || place >= program.values.length) {
                    break;
                }
                int code = program.codes[place];
                int value = program.values[place];
                place++;
                if (code >= FREE) {
                    doFree(code, value);
                } else if (step()) {
                    doStep(code, value);
                }
            }
            finish(ENDED);
        }

        private void doStep(int code, int value) {
            switch (code) {
                case NUMBER:
                    push(value);
                    break;
                case NAME:
                    push(nameAt(value));
                    break;
                case TWO:
                    int right = pop();
                    push(resultOf(value, pop(), right));
                    break;
                case ONE:
                    push(resultOf(value, pop()));
                    break;
                case AND:
                    joinBy(0, pop(), value);
                    break;
                case OR:
                    joinBy(1, pop(), value);
                    break;
                default:
                    break;
            }
        }

        private void doFree(int code, int value) {
            switch (code) {
                case TRUTH:
                    push(truthOf(pop()));
                    break;
                case UNLESS:
                    if (pop() == 0) {
                        place = value;
                    }
                    break;
                case JUMP:
                    place = value;
                    break;
                case REPEAT:
                    repeat(pop(), value);
                    break;
                case SET:
                    setName(value, pop());
                    break;
                case EFFECT:
                    doEffect(value, pop());
                    break;
                default:
                    finish(value);
                    break;
            }
        }

        /** Leaves the right side out if the truth of the left one settles the result. */
        private void joinBy(int settled, int left, int behind) {
            if (truthOf(left) == settled) {
                push(settled);
                place = behind;
            }
        }

        /** How often a block is still to be run stays on the stack, below all that the block reckons. */
        private void repeat(int times, int behind) {
            if (times < 1) {
                place = behind;
            } else {
                push(times - 1);
            }
        }

        private void push(int value) {
            if (height >= 0 && height < stack.length) {
                stack[height] = value;
                height++;
            }
        }

        private int pop() {
            if (height < 1 || height > stack.length) {
                return 0;
            }
            height--;
            return stack[height];
        }
    }

    /** Runs a program sign by sign from its text, without its codes. */
    private static final class TextReader extends Runner {
        private String text = "";
        private int place = 0;

        void run(Program program) {
            if (program != null) {
                text = program.text;
                place = 0;
                doStatements(0);
            }
            finish(ENDED);
        }

        // Once the run is over there are no more signs, so all that is still open comes to its end.
        private char sign() {
            return end == GOES_ON && place >= 0 && place < text.length() ? text.charAt(place) : NO_SIGN;
        }

        private void doStatements(int open) {
            boolean isMore = true;
            for (int count = 0; count < MOST_SIGNS && isMore; count++) {
                isMore = doStatement(open);
            }
        }

        private boolean doStatement(int open) {
            char first = sign();
            if (first == NO_SIGN || first == '}' || !step()) {
                return false;
            }
            place++;
            if (first == '?') {
                doChoice(open);
            } else if (first == '@') {
                doLoop(open);
            } else if (VARIABLES.indexOf(first) >= 0) {
                place++;
                setName(NAMES.indexOf(first), reckon(EITHER, open));
                place++;
            } else if (EFFECTS.indexOf(first) >= 0) {
                doEffect(first, reckon(EITHER, open));
                place++;
            } else {
                finish(ENDINGS.indexOf(first) + 1);
            }
            return end == GOES_ON;
        }

        private void doChoice(int open) {
            boolean isFirst = reckon(EITHER, open) != 0;
            passBlock(open, isFirst);
            if (sign() == ':') {
                place++;
                passBlock(open, !isFirst);
            }
        }

        private void doLoop(int open) {
            int times = reckon(EITHER, open);
            int start = place;
            for (int count = 0; count < times && step(); count++) {
                place = start;
                passBlock(open, true);
            }
            place = start;
            passBlock(open, false);
        }

        private void passBlock(int open, boolean isDone) {
            if (!isDone || open >= MOST_OPEN) {
                skipBlock();
                return;
            }
            place++;
            doStatements(open + 1);
            place++;
        }

        private void skipBlock() {
            int depth = 0;
            for (int count = 0; count < MOST_SIGNS; count++) {
                char sign = sign();
                place++;
                if (sign == '{') {
                    depth++;
                } else if (sign == '}') {
                    depth--;
                }
                if (depth < 1) {
                    return;
                }
            }
        }

        /** Reckons parts that bind more tightly, and what the operators of a level make of them. */
        private int reckon(int level, int open) {
            if (level > PRODUCT) {
                return reckonFactor(open);
            }
            int result = reckon(level + 1, open);
            int most = level == COMPARISON ? 1 : MOST_SIGNS;
            for (int count = 0; count < most && levelOf(sign()) == level; count++) {
                char operator = sign();
                place++;
                if (level > BOTH) {
                    int right = reckon(level + 1, open);
                    result = step() ? resultOf(operator, result, right) : 0;
                } else if (step() && truthOf(result) == (operator == '&' ? 1 : 0)) {
                    result = truthOf(reckon(level + 1, open));
                } else {
                    result = truthOf(result);
                    skipSide(level);
                }
            }
            return result;
        }

        /** Goes to the end of the right side of | or &, without reckoning it. */
        private void skipSide(int level) {
            int depth = 0;
            for (int count = 0; count < MOST_SIGNS; count++) {
                char sign = sign();
                int found = levelOf(sign);
                boolean isEnd = sign == ';' || sign == ')' || sign == '{' || found >= EITHER && found <= level;
                if (sign == NO_SIGN || isEnd && depth == 0) {
                    return;
                }
                if (sign == '(') {
                    depth++;
                } else if (sign == ')') {
                    depth--;
                }
                place++;
            }
        }

        private int reckonFactor(int open) {
            int from = place;
            for (int count = 0; count < MOST_SIGNS && isAhead(sign()); count++) {
                place++;
            }
            int behind = place;
            int result = reckonOperand(open);
            for (int at = behind - 1; at >= from && at >= 0 && at < text.length() && step(); at--) {
                result = resultOf(text.charAt(at), result);
            }
            return result;
        }

        private int reckonOperand(int open) {
            char first = sign();
            if (first == '(' && open < MOST_OPEN) {
                place++;
                int inner = reckon(EITHER, open + 1);
                place++;
                return inner;
            }
            if (!step()) {
                return 0;
            }
            if (DIGITS.indexOf(first) < 0) {
                place++;
                return nameAt(NAMES.indexOf(first));
            }
            int value = 0;
            for (int count = 0; count < MOST_DIGITS && DIGITS.indexOf(sign()) >= 0; count++) {
                value = 10 * value + DIGITS.indexOf(sign());
                place++;
            }
            return value;
        }
    }
}
