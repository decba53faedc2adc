import java.util.ArrayList;
import java.util.List;
import java.util.concurrent.Callable;

/**
 * Each call that is refused, by each line of "Throws", and each call that only tells something: behind it every answer is
 * as it is in a twin of the house that was never asked, also what only later calls can show.
 */
public final class RefusedTest {
    private static final String INDEX = "IndexOutOfBoundsException";
    private static final String ARGUMENT = "IllegalArgumentException";
    private static final String STATE = "IllegalStateException";
    private static final int LOW = Integer.MIN_VALUE;
    private static final int HIGH = Integer.MAX_VALUE;

    private interface Call {
        Object on(SievePost house);
    }

    /** What is done on a new house. */
    private interface Story {
        void on(SievePost house);
    }

    private RefusedTest() {
    }

    public static void main(String[] args) {
        draft();
        makingRules();
        wakingAndSettingAside();
        budgets();
        arriving();
        quarantine();
        taking();
        senders();
        folders();
        hours();
        tellingOfRules();
        tellingOfLetters();
        tellingOfTheRest();
        Check.end();
    }

    // ---- houses

    /** Rules active and set aside, letters in each state, half a setting as the draft. */
    private static void mixed(SievePost house) {
        house.setBudget(60, 3);
        Check.rule(house, "A=A+1;?k=1{q;}f2;gk;", 127);
        Check.rule(house, "B=B+z;@z{}", 63);
        Check.rule(house, "@999{}", 512);
        Check.mend(house, 1, "B=B+1;@z{}?k=5{x;}");
        house.pass(30);
        house.setTrust(3, 40);
        house.setQuota(2, 70);
        house.arrive(0, 10, 0, 0);
        house.arrive(1, 20, 0, 1);
        house.arrive(2, 30, 90, 2);
        house.arrive(3, 40, 41, 3);
        house.discard(3);
        house.arrive(4, 35, 0, 4);
        house.take(4);
        house.arrive(5, 200, 0, 5);
        house.arrive(6, 1, 0, 9);
        house.setAside(1);
        house.arrive(7, 50, 0, 6);
        house.arrive(8, 5, 0, 0);
        house.arrive(9, 150, 0, 5);
        house.pass(100);
        house.type('A', '=', '7', ' ');
    }

    /** 8 rules, 6 versions of the rule 0, 60 letters, and a program as the draft. */
    private static void full(SievePost house) {
        for (int rule = 0; rule < 8; rule++) {
            Check.rule(house, "n;", 1 << rule);
        }
        for (int version = 1; version < 6; version++) {
            Check.mend(house, 0, "f" + version + ";");
        }
        for (int letter = 0; letter < 60; letter++) {
            house.arrive(letter % 16, 1 + letter, letter == 59 ? 81 : 0, letter % 10);
        }
        Check.typeAll(house, "g1;");
    }

    private static void late(SievePost house) {
        Check.rule(house, "A=h;");
        for (int count = 0; count < 99; count++) {
            house.pass(100);
        }
        house.pass(99);
    }

    private static Story drafted(String text) {
        return house -> {
            Check.rule(house, "A=A+1;");
            house.arrive(0, 1, 0, 0);
            Check.typeAll(house, text);
        };
    }

    // ---- what is asked behind a call

    private static List<String> told(SievePost house) {
        List<String> all = new ArrayList<>();
        tellAsItIs(house, all);
        all.add("add " + Check.answer(() -> house.addRule(1023)) + " " + house.programs() + " " + house.length());
        if (house.rules() > 2 && house.letters() < 60) {
            // three runs broken off show the bound of strikes
            for (int count = 0; count < 3; count++) {
                house.arrive(15, 1, 0, 9);
                all.add("strikes " + house.strikes(2) + house.isAside(2));
            }
        }
        all.add("budget " + house.setBudget(200, 5));
        for (int folder = 0; folder < 5; folder++) {
            all.add("quota " + house.setQuota(folder, 90 - folder));
        }
        all.add("pass " + Check.answer(() -> house.pass(7)) + " " + Check.answer(() -> house.pass(1)));
        for (int rule = 0; rule < house.rules(); rule++) {
            int no = rule;
            all.add("wake " + Check.answer(() -> house.wake(no)));
        }
        for (int letter = house.letters() - 1; letter >= 0 && letter > house.letters() - 15; letter--) {
            int no = letter;
            all.add("release " + Check.answer(() -> house.release(no)));
            all.add("take " + Check.answer(() -> house.take(no)) + " of " + house.way(no));
        }
        house.wipe();
        Check.typeAll(house, "B=B+9;");
        all.add("mend " + Check.answer(() -> house.mend(0)) + Check.answer(() -> house.arrive(0, 3, 50, 2)));
        return all;
    }

    private static void tellAsItIs(SievePost house, List<String> all) {
        all.add(house.hour() + " " + house.length() + " " + house.fault() + " " + house.programs());
        boolean isSmall = house.letters() < 12;
        for (int rule = 0; rule < house.rules(); rule++) {
            StringBuilder row = new StringBuilder("rule " + rule + " " + house.isAside(rule) + " " + house.strikes(rule));
            row.append(' ').append(house.memory(rule, false)).append(' ').append(house.memory(rule, true));
            row.append(' ').append(house.runs(rule, false)).append(' ').append(house.runs(rule, true));
            row.append(' ').append(house.steps(rule)).append(' ').append(house.most(rule));
            int versions = house.versions(rule);
            row.append(' ').append(versions).append(house.programOf(rule, versions - 1));
            for (int place = 0; place <= (isSmall ? house.waiting(rule) : 0); place++) {
                row.append(' ').append(house.waitingAt(rule, place));
            }
            all.add(row.toString());
        }
        all.add("letters " + house.letters());
        for (int letter = isSmall ? 0 : house.letters() - 9; letter < house.letters(); letter++) {
            StringBuilder row = new StringBuilder("letter " + letter + " " + house.state(letter) + house.folderOf(letter));
            row.append(' ').append(house.meantFor(letter)).append(house.meantAnew(letter));
            row.append(' ').append(house.flags(letter)).append(' ').append(house.flagsAnew(letter));
            row.append(' ').append(house.cost(letter)).append(' ').append(house.costAnew(letter));
            for (int run = 0; run < house.way(letter); run++) {
                row.append(' ').append(house.wayRule(letter, run)).append(house.wayEnd(letter, run));
                row.append(house.endAnew(letter, run));
            }
            all.add(row.toString());
        }
        for (int number = 0; number < 16; number++) {
            all.add("trust " + house.trust(number) + (number < 6 ? " load " + house.load(number) : ""));
        }
    }

    private static void refused(String what, Story story, Call call, String thrown) {
        SievePost asked = new SievePost();
        SievePost twin = new SievePost();
        story.on(asked);
        story.on(twin);
        for (int time = 0; time < 2; time++) {
            Callable<Object> once = () -> call.on(asked);
            Check.due(what, Check.answer(once), thrown);
        }
        Check.due(what + ": every answer behind it", told(asked), told(twin));
    }

    /** A call that tells something, and changes nothing by that. */
    private static void only(String what, Call call, Object answer) {
        SievePost asked = new SievePost();
        SievePost twin = new SievePost();
        mixed(asked);
        mixed(twin);
        for (int time = 0; time < 3; time++) {
            Check.due(what, call.on(asked), answer);
        }
        Check.due(what + ": every answer behind it", told(asked), told(twin));
    }

    private static void mixedRefuses(String what, Call call, String thrown) {
        refused(what, RefusedTest::mixed, call, thrown);
    }

    private static void fullRefuses(String what, Call call, String thrown) {
        refused(what, RefusedTest::full, call, thrown);
    }

    // ---- the lines of "Throws", promise by promise

    private static void draft() {
        String[] places = {"e   ", " e  ", "  e ", "   e", "n;n~", "n;\u00e9 ", "n;n\t", "\u0000   ", "C;n;", "\uffffn;n"};
        for (String signs : places) {
            Call call = house -> house.type(signs.charAt(0), signs.charAt(1), signs.charAt(2), signs.charAt(3));
            mixedRefuses("2: no sign of the language", call, ARGUMENT);
            refused("2: no sign, and too many", drafted("n;".repeat(80)), call, ARGUMENT);
        }
        for (int had = 157; had <= 160; had++) {
            Story story = drafted("n;".repeat(80).substring(0, had));
            refused("2: 4 signs behind " + had, story, house -> house.type('n', ';', 'n', ';'), STATE);
        }
        for (int place = 0; place < 4; place++) {
            String signs = "   n   ".substring(3 - place);
            refused("2: 161", drafted("n;".repeat(80)),
                house -> house.type(signs.charAt(0), signs.charAt(1), signs.charAt(2), signs.charAt(3)), STATE);
        }
        only("4: fault", SievePost::fault, 3);
        only("18: length", SievePost::length, 3);
        only("2: blanks", house -> house.type(' ', ' ', ' ', ' '), 3);
    }

    private static void makingRules() {
        for (int scope : new int[] {LOW, -1, 0, 1024, HIGH}) {
            refused("5: scope " + scope, drafted("n;"), house -> house.addRule(scope), ARGUMENT);
            fullRefuses("5: scope " + scope + ", and there are 8", house -> house.addRule(scope), ARGUMENT);
        }
        for (String text : new String[] {"n", ";", "A=1", "?1{", "?1{}:", "@1{n;}}", "A=1;e".substring(0, 3), "(", "a=((((((((("}) {
            refused("5: no program " + text, drafted(text), house -> house.addRule(1), ARGUMENT);
            refused("6: no program " + text, drafted(text), house -> house.mend(0), ARGUMENT);
            refused("6: no rule, no program " + text, drafted(text), house -> house.mend(1), INDEX);
        }
        fullRefuses("5: there are 8", house -> house.addRule(1), STATE);
        fullRefuses("6: it has 6 versions", house -> house.mend(0), STATE);
        refused("6: no program, and 6 versions", house -> {
            full(house);
            house.type('}', ' ', ' ', ' ');
        }, house -> house.mend(0), ARGUMENT);
        refused("5: no program, and 8 rules", house -> {
            full(house);
            house.type('}', ' ', ' ', ' ');
        }, house -> house.addRule(1), ARGUMENT);
        for (int rule : new int[] {LOW, -1, 8, HIGH}) {
            fullRefuses("6: no rule " + rule, house -> house.mend(rule), INDEX);
        }
        mixedRefuses("6: no rule 3", house -> house.mend(3), INDEX);
    }

    private static void wakingAndSettingAside() {
        for (int rule : new int[] {LOW, -1, 3, HIGH}) {
            mixedRefuses("7: no rule " + rule, house -> house.wake(rule), INDEX);
            mixedRefuses("8: no rule " + rule, house -> house.setAside(rule), INDEX);
        }
        mixedRefuses("7: it is active", house -> house.wake(0), STATE);
        mixedRefuses("7: it is active, with a strike", house -> house.wake(2), STATE);
        mixedRefuses("8: it is set aside", house -> house.setAside(1), STATE);
    }

    private static void budgets() {
        int[][] rows = {{-1, 1}, {2001, 1}, {LOW, 5}, {HIGH, 5}, {0, 0}, {2000, 6}, {5, -1}, {5, LOW}, {5, HIGH}, {-1, 0}, {2001, 6}};
        for (int[] row : rows) {
            mixedRefuses("9: out of range", house -> house.setBudget(row[0], row[1]), ARGUMENT);
        }
    }

    private static void arriving() {
        int[][] rows = {{0, 0, 0, 0}, {0, 201, 0, 0}, {0, LOW, 0, 0}, {0, HIGH, 0, 0}, {0, 1, -1, 0}, {0, 1, 101, 0}, {0, 1, LOW, 0},
            {0, 1, HIGH, 0}, {0, 1, 0, -1}, {0, 1, 0, 10}, {0, 1, 0, LOW}, {0, 1, 0, HIGH}, {0, 1, 0, 32}, {15, 0, 101, 10}};
        for (int[] row : rows) {
            Call call = house -> house.arrive(row[0], row[1], row[2], row[3]);
            mixedRefuses("10: out of range", call, ARGUMENT);
            fullRefuses("10: out of range, and there are 60", call, ARGUMENT);
        }
        for (int sender : new int[] {LOW, -1, 16, HIGH}) {
            mixedRefuses("10: no sender " + sender, house -> house.arrive(sender, 1, 0, 0), INDEX);
            mixedRefuses("10: no sender, no size", house -> house.arrive(sender, 0, 0, 0), INDEX);
            fullRefuses("10: no sender, and there are 60", house -> house.arrive(sender, 1, 0, 0), INDEX);
        }
        fullRefuses("10: there are 60", house -> house.arrive(0, 1, 0, 0), STATE);
        fullRefuses("10: there are 60, in doubt too", house -> house.arrive(0, 1, 100, 0), STATE);
    }

    private static void quarantine() {
        for (int letter : new int[] {LOW, -1, 10, 60, HIGH}) {
            mixedRefuses("11: no letter " + letter, house -> house.release(letter), INDEX);
            mixedRefuses("12: no letter " + letter, house -> house.discard(letter), INDEX);
            mixedRefuses("13: no letter " + letter, house -> house.take(letter), INDEX);
        }
        fullRefuses("11: no letter 60", house -> house.release(60), INDEX);
        fullRefuses("12: no letter 60", house -> house.discard(60), INDEX);
        // filed, discarded, taken, waiting
        for (int letter : new int[] {0, 3, 4, 8}) {
            mixedRefuses("11: not in quarantine " + letter, house -> house.release(letter), STATE);
            mixedRefuses("12: not in quarantine " + letter, house -> house.discard(letter), STATE);
        }
    }

    private static void taking() {
        // in quarantine by q, in quarantine by doubt, discarded, taken, waiting
        for (int letter : new int[] {1, 2, 3, 4, 8}) {
            mixedRefuses("13: not filed " + letter, house -> house.take(letter), STATE);
        }
        fullRefuses("13: no letter 60", house -> house.take(60), INDEX);
    }

    private static void senders() {
        for (int sender : new int[] {LOW, -1, 16, HIGH}) {
            mixedRefuses("14: no sender " + sender, house -> house.setTrust(sender, 1), INDEX);
            mixedRefuses("14: no sender, no trust", house -> house.setTrust(sender, 101), INDEX);
            mixedRefuses("45: no sender " + sender, house -> house.trust(sender), INDEX);
        }
        for (int trust : new int[] {LOW, -1, 101, HIGH}) {
            mixedRefuses("14: trust " + trust, house -> house.setTrust(3, trust), ARGUMENT);
        }
        only("45: trust", house -> house.trust(3), 20);
    }

    private static void folders() {
        for (int folder : new int[] {LOW, -1, 5, 6, HIGH}) {
            mixedRefuses("15: no folder " + folder, house -> house.setQuota(folder, 1), INDEX);
            mixedRefuses("15: no folder, no quota", house -> house.setQuota(folder, -1), INDEX);
            if (folder != 5) {
                mixedRefuses("44: no folder " + folder, house -> house.load(folder), INDEX);
            }
        }
        for (int quota : new int[] {LOW, -1, 2001, HIGH}) {
            mixedRefuses("15: quota " + quota, house -> house.setQuota(2, quota), ARGUMENT);
        }
        only("44: load", house -> house.load(2), 60);
        only("44: load of folder 5", house -> house.load(5), 0);
    }

    private static void hours() {
        for (int hours : new int[] {LOW, -1, 0, 101, HIGH}) {
            mixedRefuses("16: hours " + hours, house -> house.pass(hours), ARGUMENT);
            refused("16: hours, above 10000 too", RefusedTest::late, house -> house.pass(hours), ARGUMENT);
        }
        refused("16: 10001", RefusedTest::late, house -> house.pass(2), STATE);
        refused("16: 10099", RefusedTest::late, house -> house.pass(100), STATE);
        only("17: hour", SievePost::hour, 130);
    }

    private static void tellingOfRules() {
        for (int rule : new int[] {LOW, -1, 3, 8, HIGH}) {
            mixedRefuses("21", house -> house.isAside(rule), INDEX);
            mixedRefuses("22", house -> house.versions(rule), INDEX);
            mixedRefuses("23", house -> house.programOf(rule, 0), INDEX);
            mixedRefuses("24", house -> house.memory(rule, false), INDEX);
            mixedRefuses("24", house -> house.memory(rule, true), INDEX);
            mixedRefuses("25", house -> house.strikes(rule), INDEX);
            mixedRefuses("26", house -> house.runs(rule, false), INDEX);
            mixedRefuses("26", house -> house.runs(rule, true), INDEX);
            mixedRefuses("27", house -> house.steps(rule), INDEX);
            mixedRefuses("28", house -> house.most(rule), INDEX);
            mixedRefuses("29", house -> house.waiting(rule), INDEX);
            mixedRefuses("30", house -> house.waitingAt(rule, 0), INDEX);
            mixedRefuses("30: no rule, and below 0", house -> house.waitingAt(rule, -1), INDEX);
        }
        for (int version : new int[] {LOW, -1, 2, 6, HIGH}) {
            mixedRefuses("23: no version " + version, house -> house.programOf(1, version), INDEX);
        }
        mixedRefuses("30: below 0", house -> house.waitingAt(1, -1), ARGUMENT);
        mixedRefuses("30: far below 0", house -> house.waitingAt(1, LOW), ARGUMENT);
        only("19: rules", SievePost::rules, 3);
        only("20: programs", SievePost::programs, 4);
        only("21: isAside", house -> house.isAside(1), true);
        only("22: versions", house -> house.versions(1), 2);
        only("23: programOf", house -> house.programOf(1, 1), 3);
        only("24: memory", house -> house.memory(0, false), 7);
        only("25: strikes", house -> house.strikes(2), 1);
        only("26: runs", house -> house.runs(2, true), 1);
        only("27: steps", house -> house.steps(2), 60);
        only("28: most", house -> house.most(2), 60);
        only("29: waiting", house -> house.waiting(1), 2);
        only("30: waitingAt", house -> house.waitingAt(1, 1), 9);
        only("30: not so many", house -> house.waitingAt(1, 2), -1);
    }

    private static void tellingOfLetters() {
        for (int letter : new int[] {LOW, -1, 10, 60, HIGH}) {
            mixedRefuses("32", house -> house.state(letter), INDEX);
            mixedRefuses("33", house -> house.folderOf(letter), INDEX);
            mixedRefuses("34", house -> house.meantFor(letter), INDEX);
            mixedRefuses("35", house -> house.flags(letter), INDEX);
            mixedRefuses("36", house -> house.cost(letter), INDEX);
            mixedRefuses("37", house -> house.way(letter), INDEX);
            mixedRefuses("38", house -> house.wayRule(letter, 0), INDEX);
            mixedRefuses("39", house -> house.wayEnd(letter, 0), INDEX);
            mixedRefuses("40", house -> house.meantAnew(letter), INDEX);
            mixedRefuses("41", house -> house.flagsAnew(letter), INDEX);
            mixedRefuses("42", house -> house.costAnew(letter), INDEX);
            mixedRefuses("43", house -> house.endAnew(letter, 0), INDEX);
        }
        for (int run : new int[] {LOW, -1, 2, 9, HIGH}) {
            mixedRefuses("38: no run " + run, house -> house.wayRule(0, run), INDEX);
            mixedRefuses("39: no run " + run, house -> house.wayEnd(0, run), INDEX);
            mixedRefuses("43: no run " + run, house -> house.endAnew(0, run), INDEX);
        }
        only("31: letters", SievePost::letters, 10);
        only("32: state", house -> house.state(8), 2);
        only("33: folderOf", house -> house.folderOf(0), 2);
        only("34: meantFor", house -> house.meantFor(5), 2);
        only("35: flags", house -> house.flags(0), 1);
        only("36: cost", house -> house.cost(0), 32);
        only("37: way", house -> house.way(0), 2);
        only("38: wayRule", house -> house.wayRule(0, 1), 1);
        only("39: wayEnd", house -> house.wayEnd(5, 1), 4);
        only("40: meantAnew", house -> house.meantAnew(5), 2);
        only("41: flagsAnew", house -> house.flagsAnew(0), 1);
        only("42: costAnew", house -> house.costAnew(0), 32);
        only("43: endAnew", house -> house.endAnew(5, 1), 4);
    }

    /** By calls that are taken, nothing changes but what the document says. */
    private static void tellingOfTheRest() {
        changesBack("14: setTrust", house -> house.setTrust(3, 55), house -> house.setTrust(3, 20));
        changesBack("15: setQuota", house -> house.setQuota(2, 0), house -> house.setQuota(2, 70));
        changesBack("9: setBudget", house -> house.setBudget(0, 1), house -> house.setBudget(60, 3));
        changesBack("3: wipe", SievePost::wipe, house -> house.type('A', '=', '7', ' '));
        changesBack("8: setAside, and wake of a rule without strikes", house -> house.setAside(0), house -> house.wake(0));
    }

    private static void changesBack(String what, Call there, Call back) {
        SievePost asked = new SievePost();
        SievePost twin = new SievePost();
        mixed(asked);
        mixed(twin);
        there.on(asked);
        back.on(asked);
        Check.due(what + ": every answer behind both", told(asked), told(twin));
    }
}
