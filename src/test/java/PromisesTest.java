/** Each promise of the document: ordinary inputs, the edges that it names, wrong inputs. */
public final class PromisesTest {
    private static final int[] NONE = {-1, Integer.MIN_VALUE, Integer.MAX_VALUE};

    private PromisesTest() {
    }

    public static void main(String[] args) {
        newObject();
        typing();
        wipingAndFault();
        addingRules();
        mending();
        waking();
        settingAside();
        budgets();
        arriving();
        releasing();
        discarding();
        taking();
        trusts();
        quotas();
        filing();
        passing();
        lengthsAndCounts();
        versionsAndPrograms();
        memories();
        strikesAndRuns();
        stepsAndMost();
        waitingLines();
        states();
        ways();
        waysAnew();
        wrongNumbers();
        nothingChangesByAThrow();
        Check.eachPromise(45);
        Check.end();
    }

    private static void newObject() {
        SievePost house = new SievePost();
        Check.due("1: rules", house.rules(), 0);
        Check.due("1: letters", house.letters(), 0);
        Check.due("1: programs", house.programs(), 0);
        Check.due("1: length", house.length(), 0);
        Check.due("1: fault", house.fault(), -1);
        Check.due("1: hour", house.hour(), 0);
        for (int sender = 0; sender < 16; sender++) {
            Check.due("1: trust", house.trust(sender), 80);
        }
        for (int folder = 0; folder < 6; folder++) {
            Check.due("1: load", house.load(folder), 0);
        }
        for (int folder = 0; folder < 5; folder++) {
            Check.due("1: quota", house.setQuota(folder, 7), 500);
        }
        Check.due("1: budget", house.setBudget(1, 1), 300);
    }

    private static void typing() {
        SievePost house = new SievePost();
        Check.bad("2: no sign of the language", () -> house.type('e', ' ', ' ', ' '));
        Check.due("2: nothing but blanks", house.type(' ', ' ', ' ', ' '), 0);
        Check.bad("2: type a high sign", () -> house.type('a', '\uffff', ' ', ' '));
        Check.due("2: nothing of it is put", house.length(), 0);
        Check.due("2: blanks between", house.type('A', ' ', '=', '7'), 3);
        Check.due("2: blanks ahead", house.type(' ', ' ', ' ', ';'), 4);
        house.addRule(1023);
        house.arrive(0, 1, 0, 0);
        Check.due("2: the order of the signs", house.memory(0, false), 7);
        for (int count = 0; count < 39; count++) {
            house.type('n', ';', 'n', ';');
        }
        Check.due("2: 158 signs", house.type('n', ';', ' ', ' '), 158);
        Check.untimely("2: 161 signs", () -> house.type('n', ';', ' ', 'n'));
        Check.bad("2: first named is thrown first", () -> house.type('n', ';', 'e', 'n'));
        Check.due("2: length stays", house.length(), 158);
        Check.due("2: 160 signs", house.type(' ', 'n', ' ', ';'), 160);
        Check.due("2: no sign more", house.type(' ', ' ', ' ', ' '), 160);
        Check.untimely("2: one sign more", () -> house.type('n', ' ', ' ', ' '));
        Check.untimely("2: one sign more, as the second", () -> house.type(' ', 'n', ' ', ' '));
        Check.untimely("2: one sign more, as the third", () -> house.type(' ', ' ', 'n', ' '));
        Check.untimely("2: one sign more, as the fourth", () -> house.type(' ', ' ', ' ', 'n'));
        Check.due("2: length stays 160", house.length(), 160);
        Check.due("4: 160 signs are a program", house.fault(), -1);
    }

    private static void wipingAndFault() {
        SievePost house = new SievePost();
        Check.due("3: wipe of nothing", house.wipe(), 0);
        Check.typeAll(house, "a=1;b");
        Check.due("4: fault at the length", house.fault(), 5);
        Check.due("4: fault changes nothing", house.length(), 5);
        Check.due("3: wipe", house.wipe(), 5);
        Check.due("3: wiped", house.length(), 0);
        Check.due("4: empty", house.fault(), -1);
        String[] programs = {"", "a=1;", "A=B;", "n;x;q;", "?1{}", "?1{}:{}", "?1{}?1{}:{}", "@3{f1;}", "f999;", "f007;",
            "a=1|2&3=4+5*6;", "a=(1=2)=3;", "a=!-!-1;", "a=1--1;", "a=1=-1;", "@s{@z{@d{@k{@h{@a{@b{@c{n;}}}}}}}}",
            "f((((((((1))))))));", "@1{f(((((((1)))))));}", "u1-1;g!0;", "c=a%b/c*2;"};
        for (String program : programs) {
            Check.due("4: fault of " + program, Check.faultOf(program), -1);
        }
        Object[][] faulty = {{";", 0}, {"}", 0}, {"s=1;", 0}, {"1", 0}, {"{", 0}, {":", 0}, {"a", 1}, {"a1", 1}, {"a=", 2},
            {"a=;", 2}, {"a=1", 3}, {"a=1234;", 5}, {"a=12a;", 4}, {"a=a1;", 3}, {"a=ab;", 3}, {"a=1=2=3;", 5},
            {"a=1<2>3;", 5}, {"a=1=2&3=4<5;", 9}, {"a=1+*2;", 4}, {"a=!;", 3}, {"a=1!2;", 3}, {"a=(1;", 4}, {"a=1);", 3},
            {"a=();", 3}, {"?1;", 2}, {"?{}", 1}, {"?1{}:", 5}, {"?1{}:f", 5}, {"?1{}:{}:{}", 7}, {"@1{}:{}", 4}, {"@1{", 3},
            {"@1{a=1;", 7}, {"@1{a=1}", 6}, {"n", 1}, {"n1;", 1}, {"x;;", 2}, {"q=1;", 1}, {"f;", 1}, {"g1", 2}, {"u1;}", 3},
            {"a=1{", 3}, {"?1{}}", 4}, {"?(1{", 3}, {"f(((((((((1", 9}, {"f((((((((", 9}, {"@1{@1{@1{@1{@1{@1{@1{@1{@1{", 26},
            {"@1{@1{@1{@1{@1{@1{@1{@1{f(1);", 25}, {"@1{@1{@1{@1{@1{@1{@1{@1{?1", 26}, {"@1{@1{@1{@1{@1{@1{@1{f((", 23},
            {"f((((((((1))))))))+(((((((((1", 27}};
        for (Object[] row : faulty) {
            Check.due("4: fault of " + row[0], Check.faultOf((String) row[0]), row[1]);
        }
    }

    private static void addingRules() {
        SievePost house = new SievePost();
        Check.bad("5: scope 0", () -> house.addRule(0));
        Check.bad("5: scope 1024", () -> house.addRule(1024));
        Check.bad("5: scope below 0", () -> house.addRule(-1));
        Check.typeAll(house, "A=1");
        Check.bad("5: no program", () -> house.addRule(1));
        Check.due("5: no rule is made", house.rules(), 0);
        Check.due("5: the draft stays", house.length(), 3);
        house.wipe();
        Check.typeAll(house, ";");
        Check.bad("5: at fault at once", () -> house.addRule(1));
        house.wipe();
        Check.typeAll(house, "A=1");
        Check.typeAll(house, ";");
        Check.due("5: number of the first", house.addRule(1), 0);
        Check.due("5: the draft is empty", house.length(), 0);
        Check.due("5: active", house.isAside(0), false);
        for (int number = 1; number < 8; number++) {
            Check.due("5: number", Check.rule(house, "A=A+1;", number == 1 ? 512 : 1 << number), number);
        }
        Check.bad("5: first named is thrown first", () -> house.addRule(0));
        Check.typeAll(house, "n;");
        Check.untimely("5: there are 8", () -> house.addRule(1));
        Check.due("5: the draft stays", house.length(), 2);
        Check.typeAll(house, "n");
        Check.bad("5: no program, with 8 rules", () -> house.addRule(1));
        house.arrive(0, 1, 0, 9);
        house.arrive(0, 1, 0, 9);
        house.arrive(0, 1, 0, 3);
        Check.due("5: scope 1 is for kind 0", house.runs(0, false), 0);
        Check.due("5: scope 512 is for kind 9", house.memory(1, false), 2);
        Check.due("5: scope 8 is for kind 3", house.memory(3, false), 1);
        Check.due("5: scope 4 is for kind 2", house.runs(2, false), 0);
    }

    private static void mending() {
        SievePost house = new SievePost();
        Check.outside("6: no rule", () -> house.mend(0));
        Check.rule(house, "A=A+1;B=B+2;@z{}");
        house.setBudget(13, 2);
        house.arrive(0, 1, 0, 0);
        Check.due("6: A", house.memory(0, false), 1);
        house.arrive(0, 9, 0, 0);
        Check.due("6: a strike", house.strikes(0), 1);
        Check.due("6: an active rule is mended", Check.mend(house, 0, "A=7;@z{}"), 0);
        Check.due("6: A is 0", house.memory(0, false), 0);
        Check.due("6: B is 0", house.memory(0, true), 0);
        Check.due("6: no strikes", house.strikes(0), 0);
        Check.due("6: versions", house.versions(0), 2);
        Check.due("6: the draft is empty", house.length(), 0);
        house.setBudget(6, 2);
        for (int count = 0; count < 5; count++) {
            house.arrive(0, count == 3 ? 1 : 20, 0, 0);
        }
        Check.due("6: set aside", house.isAside(0), true);
        Check.due("6: four wait", house.waiting(0), 4);
        // the letter 3 is broken off, the letter 4 has a strike too many and waits as the last one
        Check.due("6: one goes through", Check.mend(house, 0, "@z{}n;"), 1);
        Check.due("6: three wait", house.waiting(0), 3);
        Check.due("6: the second one is the last one now", house.waitingAt(0, 2), 4);
        Check.due("6: set aside once more", house.isAside(0), true);
        Check.due("6: all go through", Check.mend(house, 0, "n;"), 3);
        Check.due("6: active", house.isAside(0), false);
        Check.due("6: none waited", Check.mend(house, 0, "n;"), 0);
        Check.due("6: versions", house.versions(0), 5);
        Check.mend(house, 0, "x;");
        Check.typeAll(house, "n;");
        Check.untimely("6: 6 versions", () -> house.mend(0));
        Check.due("6: the draft stays", house.length(), 2);
        Check.typeAll(house, "n");
        Check.bad("6: no program", () -> house.mend(0));
        Check.outside("6: no rule, no program", () -> house.mend(1));
        house.wipe();
        Check.typeAll(house, "}");
        Check.bad("6: at fault at once", () -> house.mend(0));
    }

    private static void waking() {
        SievePost house = new SievePost();
        Check.outside("7: no rule", () -> house.wake(0));
        Check.rule(house, "A=A+1;@z{}");
        Check.rule(house, "B=B+1;");
        Check.untimely("7: active", () -> house.wake(0));
        house.setBudget(20, 2);
        house.arrive(0, 100, 0, 0);
        Check.due("7: its strikes", house.setAside(0), 1);
        house.arrive(0, 1, 0, 0);
        house.arrive(0, 2, 0, 0);
        Check.due("7: nothing ran", house.runs(0, false), 1);
        Check.due("7: two wait", house.waiting(0), 2);
        Check.due("7: woken", house.wake(0), 2);
        Check.due("7: no strikes", house.strikes(0), 0);
        Check.due("7: they went on", house.memory(0, false), 2);
        Check.due("7: and went on to the next rule", house.memory(1, true), 3);
        house.setAside(0);
        house.setAside(1);
        house.arrive(0, 1, 0, 0);
        Check.due("7: from one line to the next", house.wake(0), 1);
        Check.due("7: A stays behind a wake", house.memory(0, false), 3);
        Check.due("7: it waits there", house.waitingAt(1, 0), 3);
        Check.due("7: and goes on", house.wake(1), 1);
        Check.due("7: through", house.state(3), 0);
    }

    private static void settingAside() {
        SievePost house = new SievePost();
        Check.outside("8: no rule", () -> house.setAside(0));
        Check.rule(house, "@z{}");
        house.setBudget(5, 5);
        Check.due("8: no strikes", house.setAside(0), 0);
        Check.untimely("8: it is set aside", () -> house.setAside(0));
        house.wake(0);
        house.arrive(0, 9, 0, 0);
        house.arrive(0, 9, 0, 0);
        house.arrive(0, 9, 0, 0);
        Check.due("8: its strikes", house.setAside(0), 3);
        Check.due("8: they stay", house.strikes(0), 3);
        Check.due("8: set aside", house.isAside(0), true);
    }

    private static void budgets() {
        SievePost house = new SievePost();
        Check.bad("9: steps below", () -> house.setBudget(-1, 1));
        Check.bad("9: steps above", () -> house.setBudget(2001, 1));
        Check.bad("9: strikes below", () -> house.setBudget(0, 0));
        Check.bad("9: strikes above", () -> house.setBudget(0, 6));
        Check.due("9: the first budget", house.setBudget(2000, 5), 300);
        Check.due("9: the budget before", house.setBudget(0, 1), 2000);
        Check.due("9: the least", house.setBudget(4, 3), 0);
        Check.rule(house, "@z{}");
        house.arrive(0, 2, 0, 0);
        Check.due("9: as many steps as the limit", house.wayEnd(0, 0), 0);
        house.arrive(0, 3, 0, 0);
        Check.due("9: one above it", house.wayEnd(1, 0), 4);
        house.arrive(0, 3, 0, 0);
        Check.due("9: below the bound", house.isAside(0), false);
        house.setBudget(4, 1);
        Check.due("9: a lower bound is for strikes to come", house.isAside(0), false);
        house.arrive(0, 2, 0, 0);
        Check.due("9: a run that is not broken off", house.strikes(0), 0);
        house.arrive(0, 3, 0, 0);
        Check.due("9: the new bound", house.isAside(0), true);
        SievePost second = new SievePost();
        second.setBudget(4, 5);
        Check.rule(second, "@z{}");
        for (int count = 0; count < 4; count++) {
            second.arrive(0, 3, 0, 0);
        }
        second.setBudget(4, 2);
        second.arrive(0, 3, 0, 0);
        Check.due("9: strikes above the bound", second.strikes(0), 5);
        Check.due("9: or more", second.isAside(0), true);
        SievePost third = new SievePost();
        third.setBudget(0, 2);
        Check.rule(third, "");
        third.arrive(0, 1, 0, 0);
        Check.due("9: no steps need no budget", third.wayEnd(0, 0), 0);
        Check.rule(third, "n;");
        third.arrive(0, 1, 0, 0);
        Check.due("9: a step needs one", third.wayEnd(1, 1), 4);
        SievePost fourth = new SievePost();
        Check.rule(fourth, "@999{}");
        fourth.arrive(0, 1, 0, 0);
        Check.due("9: the first bound is not 1", fourth.isAside(0), false);
        fourth.arrive(0, 1, 0, 0);
        Check.due("9: the first bound is 2", fourth.isAside(0), true);
    }

    private static void arriving() {
        SievePost house = new SievePost();
        Check.outside("10: no sender", () -> house.arrive(16, 1, 0, 0));
        Check.outside("10: no sender below", () -> house.arrive(-1, 0, 0, 0));
        Check.bad("10: size below", () -> house.arrive(0, 0, 0, 0));
        Check.bad("10: size above", () -> house.arrive(0, 201, 0, 0));
        Check.bad("10: doubt below", () -> house.arrive(0, 1, -1, 0));
        Check.bad("10: doubt above", () -> house.arrive(0, 1, 101, 0));
        Check.bad("10: kind below", () -> house.arrive(0, 1, 0, -1));
        Check.bad("10: kind above", () -> house.arrive(0, 1, 0, 10));
        Check.due("10: none arrived", house.letters(), 0);
        Check.due("10: number", house.arrive(15, 200, 80, 9), 0);
        Check.due("10: doubt as great as trust", house.state(0), 0);
        Check.due("10: next number", house.arrive(0, 1, 81, 0), 1);
        Check.due("10: doubt above trust", house.state(1), 1);
        Check.due("10: not filed", house.folderOf(1), -1);
        Check.due("10: meant for 0 at first", house.meantFor(1), 0);
        for (int number = 2; number < 60; number++) {
            Check.due("10: numbers", house.arrive(3, 1, 0, 0), number);
        }
        Check.untimely("10: there are 60", () -> house.arrive(3, 1, 0, 0));
        Check.bad("10: first named is thrown first", () -> house.arrive(3, 0, 0, 0));
        Check.outside("10: the sender is looked at first", () -> house.arrive(16, 0, 0, 0));
        Check.due("10: 60 stay", house.letters(), 60);
    }

    private static void releasing() {
        SievePost house = new SievePost();
        Check.outside("11: no letter", () -> house.release(0));
        Check.rule(house, "?d<50{q;}A=A+1;");
        Check.rule(house, "?k=1{q;}B=B+1;");
        house.arrive(0, 1, 90, 1);
        Check.due("11: doubt", house.way(0), 0);
        Check.due("11: from the rule 0, to the quarantine of rule 1", house.release(0), 1);
        Check.due("11: rule 0 ran", house.memory(0, false), 1);
        Check.due("11: trust is 5 more", house.trust(0), 85);
        Check.due("11: from the rule behind", house.release(0), 0);
        Check.due("11: rule 1 did not run on", house.memory(1, true), 0);
        Check.due("11: two runs", house.way(0), 2);
        Check.due("11: trust is 5 more", house.trust(0), 90);
        Check.untimely("11: filed", () -> house.release(0));
        house.arrive(1, 1, 0, 0);
        house.setTrust(1, 97);
        Check.due("11: on to the rule 1", house.release(1), 0);
        Check.due("11: rule 1 ran", house.memory(1, true), 1);
        Check.due("11: trust up to 100", house.trust(1), 100);
        house.arrive(2, 1, 0, 1);
        house.setAside(1);
        Check.due("11: it waits", house.release(2), 2);
        Check.due("11: in the line", house.waitingAt(1, 0), 2);
        Check.untimely("11: waiting", () -> house.release(2));
        SievePost second = new SievePost();
        Check.rule(second, "q;");
        second.arrive(0, 1, 0, 0);
        Check.rule(second, "f3;");
        Check.due("11: a rule made since", second.release(0), 0);
        Check.due("11: is gone to", second.folderOf(0), 3);
    }

    private static void discarding() {
        SievePost house = new SievePost();
        Check.outside("12: no letter", () -> house.discard(0));
        house.arrive(4, 1, 100, 0);
        house.arrive(4, 1, 100, 0);
        house.arrive(4, 1, 0, 0);
        Check.due("12: 20 less", house.discard(0), 60);
        Check.due("12: discarded", house.state(0), 3);
        Check.untimely("12: discarded already", () -> house.discard(0));
        Check.untimely("12: no release either", () -> house.release(0));
        Check.untimely("12: filed", () -> house.discard(2));
        house.setTrust(4, 19);
        Check.due("12: down to 0", house.discard(1), 0);
        Check.due("12: trust", house.trust(4), 0);
        Check.due("12: others keep theirs", house.trust(3), 80);
    }

    private static void taking() {
        SievePost house = new SievePost();
        Check.outside("13: no letter", () -> house.take(0));
        Check.rule(house, "fk;");
        house.arrive(0, 30, 0, 5);
        house.arrive(0, 40, 0, 2);
        house.arrive(0, 50, 99, 2);
        Check.due("13: load", house.load(5), 30);
        Check.due("13: the folder", house.take(0), 5);
        Check.due("13: load less", house.load(5), 0);
        Check.due("13: taken", house.state(0), 4);
        Check.due("13: no folder", house.folderOf(0), -1);
        Check.due("13: meant for it all the same", house.meantFor(0), 5);
        Check.untimely("13: taken already", () -> house.take(0));
        Check.untimely("13: in quarantine", () -> house.take(2));
        Check.due("13: the folder", house.take(1), 2);
    }

    private static void trusts() {
        SievePost house = new SievePost();
        Check.outside("14: no sender", () -> house.setTrust(16, 5));
        Check.outside("14: no sender, no trust", () -> house.setTrust(-1, 101));
        Check.bad("14: trust below", () -> house.setTrust(0, -1));
        Check.bad("14: trust above", () -> house.setTrust(0, 101));
        Check.due("14: before", house.setTrust(15, 0), 80);
        Check.due("14: before", house.setTrust(15, 100), 0);
        Check.due("45: trust", house.trust(15), 100);
        Check.due("45: of another", house.trust(14), 80);
        Check.outside("45: no sender", () -> house.trust(16));
        Check.outside("45: no sender below", () -> house.trust(-1));
        house.setTrust(1, 0);
        house.arrive(1, 1, 0, 0);
        Check.due("14: doubt 0 is not above 0", house.state(0), 0);
        house.arrive(1, 1, 1, 0);
        Check.due("14: doubt 1 is", house.state(1), 1);
    }

    private static void quotas() {
        SievePost house = new SievePost();
        Check.outside("15: no folder", () -> house.setQuota(6, 1));
        Check.outside("15: folder 5", () -> house.setQuota(5, 1));
        Check.outside("15: folder 5, no quota", () -> house.setQuota(5, -1));
        Check.outside("15: folder below", () -> house.setQuota(-1, 1));
        Check.bad("15: quota below", () -> house.setQuota(0, -1));
        Check.bad("15: quota above", () -> house.setQuota(4, 2001));
        Check.due("15: before", house.setQuota(4, 2000), 500);
        Check.due("15: before", house.setQuota(4, 0), 2000);
        house.arrive(0, 200, 0, 0);
        Check.due("15: filed", house.folderOf(0), 0);
        house.setQuota(0, 199);
        Check.due("15: what is filed stays", house.folderOf(0), 0);
        Check.due("15: and counts", house.load(0), 200);
    }

    private static void filing() {
        SievePost house = new SievePost();
        Check.rule(house, "fk;");
        house.setQuota(1, 100);
        house.setQuota(2, 49);
        house.setQuota(4, 0);
        house.arrive(0, 60, 0, 1);
        house.arrive(0, 40, 0, 1);
        Check.due("44: as much as the quota", house.load(1), 100);
        house.arrive(0, 50, 0, 1);
        Check.due("33: the next folder upward that takes it", house.folderOf(2), 3);
        Check.due("34: meant for another", house.meantFor(2), 1);
        house.arrive(0, 49, 0, 1);
        Check.due("33: folder 2", house.folderOf(3), 2);
        house.arrive(0, 1, 0, 4);
        Check.due("33: folder 5 takes all", house.folderOf(4), 5);
        house.setQuota(3, 0);
        for (int count = 0; count < 20; count++) {
            house.arrive(0, 200, 0, 4);
        }
        Check.due("44: load of folder 5", house.load(5), 4001);
        house.take(0);
        house.arrive(0, 60, 0, 1);
        Check.due("33: there is place again", house.folderOf(25), 1);
        house.arrive(0, 10, 0, 6);
        Check.due("33: no such folder to be meant for", house.folderOf(26), 0);
        Check.outside("44: no folder", () -> house.load(6));
        Check.outside("44: no folder below", () -> house.load(-1));
    }

    private static void passing() {
        SievePost house = new SievePost();
        Check.bad("16: 0 hours", () -> house.pass(0));
        Check.bad("16: 101 hours", () -> house.pass(101));
        Check.due("16: the hour", house.pass(1), 1);
        Check.due("16: the hour", house.pass(100), 101);
        Check.due("17: hour", house.hour(), 101);
        for (int count = 0; count < 98; count++) {
            house.pass(100);
        }
        Check.due("16: 99 more", house.pass(99), 10000);
        Check.untimely("16: above 10000", () -> house.pass(1));
        Check.bad("16: first named is thrown first", () -> house.pass(101));
        Check.due("17: hour stays", house.hour(), 10000);
        Check.rule(house, "A=h;");
        house.arrive(0, 1, 0, 0);
        Check.due("16: the hour of the day", house.memory(0, false), 10000 % 24);
    }

    private static void lengthsAndCounts() {
        SievePost house = new SievePost();
        Check.typeAll(house, "?1{}:{n;}");
        Check.due("18: length", house.length(), 9);
        house.addRule(1);
        Check.due("18: length behind a rule", house.length(), 0);
        Check.due("19: rules", house.rules(), 1);
        house.addRule(1);
        Check.due("19: rules", house.rules(), 2);
        house.arrive(0, 1, 0, 0);
        house.arrive(0, 1, 99, 0);
        Check.due("31: letters", house.letters(), 2);
    }

    private static void versionsAndPrograms() {
        SievePost house = new SievePost();
        Check.rule(house, "n;");
        Check.rule(house, "x;");
        Check.rule(house, "n;");
        Check.due("20: programs", house.programs(), 2);
        Check.due("22: versions", house.versions(2), 1);
        Check.mend(house, 2, "");
        Check.mend(house, 2, "x;");
        Check.mend(house, 2, "n;n;");
        Check.due("20: programs", house.programs(), 4);
        Check.due("22: versions", house.versions(2), 4);
        Check.due("23: first", house.programOf(2, 0), 0);
        Check.due("23: second", house.programOf(2, 1), 2);
        Check.due("23: third", house.programOf(2, 2), 1);
        Check.due("23: fourth", house.programOf(2, 3), 3);
        Check.due("23: of another rule", house.programOf(1, 0), 1);
        Check.outside("23: no version", () -> house.programOf(2, 4));
        Check.outside("23: no version below", () -> house.programOf(2, -1));
        Check.outside("23: no rule", () -> house.programOf(3, 0));
        Check.typeAll(house, "nn");
        house.fault();
        Check.due("20: a draft is none", house.programs(), 4);
        SievePost most = new SievePost();
        for (int rule = 0; rule < 8; rule++) {
            Check.rule(most, "a=" + rule + ";");
            for (int version = 1; version < 6; version++) {
                Check.mend(most, rule, "b=" + rule + "+" + version + ";");
            }
        }
        Check.due("20: 48 programs", most.programs(), 48);
        Check.due("23: the last one", most.programOf(7, 5), 47);
    }

    private static void memories() {
        Object[][] table = {
            {"", 0, 0, 0}, {"A=1;", 1, 0, 2}, {"A=s;B=z;", 3, 7, 4}, {"A=d;B=k;", 50, 2, 4}, {"A=h;", 6, 0, 2},
            {"A=1+2*3;", 7, 0, 6}, {"A=2-3-4;B=2-(3-4);", -5, 3, 12}, {"A=100/7/2;B=7%4*2;", 7, 6, 12},
            {"A=-7/2;B=-7%2;", -3, -1, 10}, {"A=7/-2;B=7%-2;", -3, 1, 10}, {"A=7/0+z%0;", 0, 0, 8},
            {"A=0&1;B=5&7;", 0, 1, 7}, {"A=0|0;B=3|1;", 0, 1, 7}, {"A=0&1&1;", 0, 0, 4}, {"A=1|0|0;", 1, 0, 4},
            {"A=0&1|1;B=1|1&0;", 1, 1, 8}, {"A=7|9/0;B=0&9/0;", 1, 0, 6}, {"A=0|7;B=7&0;", 1, 0, 8},
            {"A=(1|0)&(0|(1&0));", 0, 0, 9}, {"A=0&(1&(2|3))|4;", 1, 0, 5}, {"A=1|(2)|(3&(4));B=1;", 1, 1, 6},
            {"A=--5;B=-!0;", 5, -1, 8}, {"A=!-5;B=!!5;", 0, 1, 8}, {"A=3--2;B=3*-2;", 5, -6, 10}, {"A=-2*3;", -6, 0, 5},
            {"A=999*99+1;B=999*99-1;", 9999, 9998, 12}, {"A=-999*99;B=-999*99-1;", -9999, -9999, 12},
            {"A=999*11;B=-A-A;", 9999, -9999, 9}, {"A=-(999*99);B=A-999*99+999;", -9999, -9000, 13},
            {"A=1=1;B=1=2;", 1, 0, 8}, {"A=1<2;B=2<1;", 1, 0, 8}, {"A=2>1;B=1>1;", 1, 0, 8}, {"A=3=1+2;B=1<1;", 1, 0, 10},
            {"A=1+(2<3);B=(2=2)=1;", 2, 1, 12}, {"A=007+010;", 17, 0, 4},
            {"?1{A=1;}:{A=2;}", 1, 0, 4}, {"?0{A=1;}:{A=2;}", 2, 0, 4}, {"?0{A=1;}B=2;", 0, 2, 4}, {"?-1{A=1;}", 1, 0, 5},
            {"?0{?1{A=1;}:{A=2;}}:{?0{A=3;}:{A=4;}}", 4, 0, 6}, {"?1{?0{A=1;}:{A=2;}}:{?0{A=3;}:{A=4;}}B=5;", 2, 5, 8},
            {"@3{A=A+1;}", 3, 0, 17}, {"@0{A=1;}B=1;", 0, 1, 4}, {"@-1{A=1;}", 0, 0, 3}, {"@1{A=1;}", 1, 0, 5},
            {"a=2;@a{a=a+1;}A=a;", 4, 0, 16}, {"@2{@2{A=A+1;}}B=A;", 4, 4, 30}, {"@2{}", 0, 0, 4}, {"@2{?A{B=B+1;}A=1;}", 1, 1, 16},
            {"a=1;b=2;c=3;A=a+b*c;", 7, 0, 12}, {"A=a;a=9;B=b+c;", 0, 0, 8}, {"n;A=1;", 0, 0, 1}, {"A=5;@9{n;}B=5;", 5, 0, 6},
            {"@9{?A=3{x;}A=A+1;}B=5;", 3, 0, 2 + 3 * 9 + 6}, {"A=(0|(2));", 1, 0, 4}, {"A=1&(0)|(0)&1;", 0, 0, 7}};
        for (Object[] row : table) {
            SievePost house = new SievePost();
            house.pass(54);
            Check.rule(house, (String) row[0]);
            house.arrive(3, 7, 50, 2);
            Check.due("24: A by " + row[0], house.memory(0, false), row[1]);
            Check.due("24: B by " + row[0], house.memory(0, true), row[2]);
            Check.due("36: cost of " + row[0], house.cost(0), row[3]);
            Check.due("42: cost anew of " + row[0], house.costAnew(0), row[3]);
            Check.due("27: steps of " + row[0], house.steps(0), row[3]);
            // one step less is not enough, and leaves no trace
            if (!row[3].equals(0)) {
                SievePost other = new SievePost();
                other.setBudget((Integer) row[3] - 1, 5);
                other.pass(54);
                Check.rule(other, (String) row[0]);
                other.arrive(3, 7, 50, 2);
                Check.due("24: A, broken off, by " + row[0], other.memory(0, false), 0);
                Check.due("39: broken off " + row[0], other.wayEnd(0, 0), 4);
                Check.due("43: broken off anew " + row[0], other.endAnew(0, 0), 4);
                Check.due("36: no cost of " + row[0], other.cost(0), 0);
            }
        }
        SievePost house = new SievePost();
        Check.rule(house, "A=A+1;B=B-A;a=a+1;?a>1{A=99;}");
        house.arrive(0, 1, 0, 0);
        house.arrive(0, 1, 0, 0);
        house.arrive(0, 1, 0, 0);
        Check.due("24: A stays from run to run", house.memory(0, false), 3);
        Check.due("24: B stays from run to run", house.memory(0, true), -6);
        Check.rule(house, "B=A;");
        house.arrive(0, 1, 0, 0);
        Check.due("24: each rule has its own", house.memory(1, true), 0);
    }

    private static void strikesAndRuns() {
        SievePost house = new SievePost();
        Check.rule(house, "@z{}");
        house.setBudget(12, 3);
        int[] sizes = {11, 1, 11, 11, 10, 11, 11, 11, 1};
        int[] strikes = {1, 0, 1, 2, 0, 1, 2, 3, 3};
        for (int number = 0; number < sizes.length; number++) {
            house.arrive(0, sizes[number], 0, 0);
            Check.due("25: strikes behind letter " + number, house.strikes(0), strikes[number]);
            Check.due("21: aside behind letter " + number, house.isAside(0), number >= 7);
        }
        Check.due("26: runs", house.runs(0, false), 8);
        Check.due("26: broken off", house.runs(0, true), 6);
        Check.due("32: the eighth waits", house.state(7), 2);
        Check.due("32: the seventh went on", house.state(6), 0);
    }

    private static void stepsAndMost() {
        SievePost house = new SievePost();
        Check.rule(house, "@z{}");
        Check.due("27: steps of no run", house.steps(0), 0);
        Check.due("28: most of no run", house.most(0), 0);
        house.setBudget(10, 5);
        house.arrive(0, 1, 0, 0);
        Check.due("27: steps", house.steps(0), 3);
        Check.due("28: most", house.most(0), 3);
        house.arrive(0, 100, 0, 0);
        Check.due("27: as many as the limit", house.steps(0), 13);
        Check.due("28: the limit", house.most(0), 10);
        house.arrive(0, 4, 0, 0);
        Check.due("27: steps", house.steps(0), 19);
        Check.due("28: most stays", house.most(0), 10);
        house.setBudget(0, 5);
        house.arrive(0, 4, 0, 0);
        Check.due("27: a limit of 0", house.steps(0), 19);
        Check.mend(house, 0, "n;");
        Check.due("27: steps of all versions", house.steps(0), 19);
        Check.due("26: runs of all versions", house.runs(0, false), 4);
        SievePost two = new SievePost();
        Check.rule(two, "@z{}");
        Check.rule(two, "@z{}");
        two.setBudget(10, 5);
        two.arrive(0, 4, 0, 0);
        Check.due("27: the limit is less what is spent", two.steps(1), 4);
        Check.due("36: cost of the one that was not broken off", two.cost(0), 6);
        two.arrive(0, 9, 0, 0);
        Check.due("27: what was broken off is not spent", two.steps(1), 14);
        Check.due("36: no cost", two.cost(1), 0);
        Check.due("42: no cost anew", two.costAnew(1), 0);
        SievePost low = new SievePost();
        Check.rule(low, "@z{}q;");
        Check.rule(low, "n;");
        low.arrive(0, 9, 0, 0);
        low.setBudget(5, 1);
        Check.due("27: a limit is at least 0", low.release(0), 2);
        Check.due("27: of no steps", low.steps(1), 0);
    }

    private static void waitingLines() {
        SievePost house = new SievePost();
        Check.rule(house, "@z{}");
        Check.due("29: none wait", house.waiting(0), 0);
        Check.due("30: none wait", house.waitingAt(0, 0), -1);
        house.setAside(0);
        for (int number = 0; number < 60; number++) {
            house.arrive(0, number < 3 ? 200 : 1, 0, 0);
        }
        Check.due("29: all wait", house.waiting(0), 60);
        Check.due("30: first", house.waitingAt(0, 0), 0);
        Check.due("30: last", house.waitingAt(0, 59), 59);
        Check.due("30: not so many", house.waitingAt(0, 60), -1);
        Check.due("30: far above", house.waitingAt(0, Integer.MAX_VALUE), -1);
        Check.bad("30: below 0", () -> house.waitingAt(0, -1));
        Check.outside("30: no rule, below 0", () -> house.waitingAt(1, -1));
        house.setBudget(50, 3);
        Check.due("7: two go through broken off", house.wake(0), 2);
        Check.due("29: the third is the last now", house.waiting(0), 58);
        Check.due("30: the fourth is the first", house.waitingAt(0, 0), 3);
        Check.due("30: the third is the last", house.waitingAt(0, 57), 2);
        Check.due("30: not so many any more", house.waitingAt(0, 58), -1);
        Check.due("7: one strike is not enough", house.wake(0), 58);
        Check.due("37: it ran twice", house.way(2), 2);
        Check.due("25: one strike", house.strikes(0), 1);
    }

    private static void states() {
        SievePost house = new SievePost();
        Check.rule(house, "?k=1{q;}?k=2{x;}g1;f2;");
        Check.rule(house, "?z=9{g3;u1;}g0;f3;");
        house.arrive(0, 1, 0, 0);
        house.arrive(0, 1, 0, 1);
        house.arrive(0, 1, 0, 2);
        house.arrive(0, 9, 0, 0);
        Check.due("32: filed", house.state(0), 0);
        Check.due("32: in quarantine", house.state(1), 1);
        Check.due("32: filed by x", house.state(2), 0);
        Check.due("33: folder", house.folderOf(0), 3);
        Check.due("33: none in quarantine", house.folderOf(1), -1);
        Check.due("33: folder by x", house.folderOf(2), 0);
        Check.due("35: flags", house.flags(0), 3);
        Check.due("35: flags taken down", house.flags(3), 9);
        Check.due("35: no flags", house.flags(2), 0);
        house.setAside(1);
        house.arrive(0, 1, 0, 0);
        Check.due("32: waits", house.state(4), 2);
        Check.due("34: meant for, so far", house.meantFor(4), 2);
        Check.due("35: flags, so far", house.flags(4), 2);
        Check.due("33: none while it waits", house.folderOf(4), -1);
        house.discard(1);
        Check.due("32: discarded", house.state(1), 3);
        house.take(0);
        Check.due("32: taken", house.state(0), 4);
        SievePost second = new SievePost();
        Check.rule(second, "g0;g1;g2;g3;g4;g-1;u4;u-1;f5;f6;f-1;");
        Check.rule(second, "u2;f0;@999{}");
        second.arrive(0, 1, 0, 0);
        Check.due("35: four flags", second.flags(0), 15);
        Check.due("34: folder 5", second.meantFor(0), 5);
        Check.due("41: four flags", second.flagsAnew(0), 15);
        Check.due("40: folder 5", second.meantAnew(0), 5);
        SievePost third = new SievePost();
        Check.rule(third, "f3;f0;g0;g1;g2;g3;u0;");
        Check.rule(third, "g4;u4;f6;g0-1;u0-1;f0-1;?1{g4;}");
        third.arrive(0, 1, 0, 0);
        Check.due("34: folder 0 again", third.meantFor(0), 0);
        Check.due("40: folder 0 again", third.meantAnew(0), 0);
        Check.due("35: there is no flag 4", third.flags(0), 14);
        Check.due("41: there is no flag 4", third.flagsAnew(0), 14);
    }

    private static void ways() {
        SievePost house = new SievePost();
        Check.rule(house, "");
        Check.rule(house, "@h{n;}", 6);
        Check.rule(house, "@99{}", 2);
        Check.rule(house, "?1{q;}", 4);
        Check.rule(house, "@2{x;}", 6);
        Check.rule(house, "", 1023);
        house.setBudget(30, 5);
        house.pass(1);
        house.arrive(0, 1, 0, 1);
        Check.due("37: way", house.way(0), 4);
        int[] rules = {0, 1, 2, 4};
        int[] ends = {0, 1, 4, 2};
        for (int run = 0; run < 4; run++) {
            Check.due("38: rule of run " + run, house.wayRule(0, run), rules[run]);
            Check.due("39: end of run " + run, house.wayEnd(0, run), ends[run]);
            Check.due("43: end anew of run " + run, house.endAnew(0, run), ends[run]);
        }
        Check.outside("38: no run", () -> house.wayRule(0, 4));
        Check.outside("39: no run", () -> house.wayEnd(0, 4));
        Check.outside("43: no run", () -> house.endAnew(0, 4));
        Check.outside("38: no run below", () -> house.wayRule(0, -1));
        Check.outside("39: no run below", () -> house.wayEnd(0, -1));
        Check.outside("43: no run below", () -> house.endAnew(0, -1));
        house.arrive(0, 1, 0, 2);
        Check.due("39: q", house.wayEnd(1, 2), 3);
        Check.due("43: q", house.endAnew(1, 2), 3);
        Check.due("37: way so far", house.way(1), 3);
        house.release(1);
        Check.due("37: way goes on", house.way(1), 4);
        Check.due("38: behind it", house.wayRule(1, 3), 4);
        Check.due("39: x", house.wayEnd(1, 3), 2);
        house.arrive(0, 1, 0, 3);
        Check.due("37: rules for other kinds have no run", house.way(2), 2);
        Check.due("38: the last rule", house.wayRule(2, 1), 5);
        house.arrive(0, 1, 100, 3);
        Check.due("37: no way", house.way(3), 0);
    }

    private static void waysAnew() {
        SievePost house = new SievePost();
        Check.rule(house, "A=A+1;fA;gB;B=h;@d{}");
        Check.rule(house, "?A{u1;}A=1;?h>4{f5;}");
        house.pass(2);
        house.arrive(0, 1, 0, 0);
        house.pass(1);
        house.arrive(0, 1, 0, 0);
        house.pass(2);
        house.arrive(0, 1, 50, 0);
        house.arrive(0, 1, 0, 0);
        int[] meant = {1, 2, 5, 5};
        int[] flags = {1, 4, 8, 0};
        int[] costs = {20, 22, 74, 24};
        for (int round = 0; round < 2; round++) {
            for (int letter = 0; letter < 4; letter++) {
                Check.due("34: meant for " + letter, house.meantFor(letter), meant[letter]);
                Check.due("35: flags of " + letter, house.flags(letter), flags[letter]);
                Check.due("36: cost of " + letter, house.cost(letter), costs[letter]);
                Check.due("40: meant anew " + letter, house.meantAnew(letter), meant[letter]);
                Check.due("41: flags anew " + letter, house.flagsAnew(letter), flags[letter]);
                Check.due("42: cost anew " + letter, house.costAnew(letter), costs[letter]);
                Check.due("43: end anew " + letter, house.endAnew(letter, 1), 0);
            }
            // told from the versions, memories, limits and hours as they were then
            Check.mend(house, 0, "f4;");
            Check.mend(house, 1, "n;");
            house.pass(13);
            house.setBudget(1, 1);
        }
        SievePost broken = new SievePost();
        Check.rule(broken, "f3;g2;");
        Check.rule(broken, "f1;u2;g0;@z{}");
        broken.setBudget(30, 5);
        broken.arrive(0, 200, 0, 0);
        Check.due("40: no trace of a run broken off", broken.meantAnew(0), 3);
        Check.due("41: no trace of a run broken off", broken.flagsAnew(0), 4);
        Check.due("42: no cost of a run broken off", broken.costAnew(0), 4);
        Check.due("43: broken off", broken.endAnew(0, 1), 4);
        broken.arrive(0, 200, 90, 0);
        Check.due("40: no way", broken.meantAnew(1), 0);
        Check.due("41: no way", broken.flagsAnew(1), 0);
        Check.due("42: no way", broken.costAnew(1), 0);
    }

    private static void wrongNumbers() {
        SievePost house = new SievePost();
        Check.rule(house, "n;");
        house.arrive(0, 1, 0, 0);
        for (int base : new int[] {1, -1, 7, 8, 60, Integer.MIN_VALUE, Integer.MAX_VALUE}) {
            int no = base;
            Check.outside("21", () -> house.isAside(no));
            Check.outside("22", () -> house.versions(no));
            Check.outside("23", () -> house.programOf(no, 0));
            Check.outside("24", () -> house.memory(no, true));
            Check.outside("25", () -> house.strikes(no));
            Check.outside("26", () -> house.runs(no, false));
            Check.outside("27", () -> house.steps(no));
            Check.outside("28", () -> house.most(no));
            Check.outside("29", () -> house.waiting(no));
            Check.outside("30", () -> house.waitingAt(no, 0));
            Check.outside("6", () -> house.mend(no));
            Check.outside("7", () -> house.wake(no));
            Check.outside("8", () -> house.setAside(no));
            Check.outside("11", () -> house.release(no));
            Check.outside("12", () -> house.discard(no));
            Check.outside("13", () -> house.take(no));
            Check.outside("32", () -> house.state(no));
            Check.outside("33", () -> house.folderOf(no));
            Check.outside("34", () -> house.meantFor(no));
            Check.outside("35", () -> house.flags(no));
            Check.outside("36", () -> house.cost(no));
            Check.outside("37", () -> house.way(no));
            Check.outside("38", () -> house.wayRule(no, 0));
            Check.outside("39", () -> house.wayEnd(no, 0));
            Check.outside("40", () -> house.meantAnew(no));
            Check.outside("41", () -> house.flagsAnew(no));
            Check.outside("42", () -> house.costAnew(no));
            Check.outside("43", () -> house.endAnew(no, 0));
        }
        for (int no : NONE) {
            Check.outside("44", () -> house.load(no));
            Check.outside("45", () -> house.trust(no));
            Check.outside("14", () -> house.setTrust(no, 0));
            Check.outside("15", () -> house.setQuota(no, 0));
            Check.outside("10", () -> house.arrive(no, 1, 0, 0));
            Check.bad("10", () -> house.arrive(0, no, 0, 0));
            Check.bad("10", () -> house.arrive(0, 1, no, 0));
            Check.bad("10", () -> house.arrive(0, 1, 0, no));
            Check.bad("16", () -> house.pass(no));
            Check.bad("9", () -> house.setBudget(no, 1));
            Check.bad("9", () -> house.setBudget(1, no));
            Check.bad("5", () -> house.addRule(no));
        }
    }

    private static void nothingChangesByAThrow() {
        SievePost house = new SievePost();
        Check.rule(house, "A=A+1;");
        house.arrive(0, 1, 99, 0);
        Check.typeAll(house, "n");
        Check.bad("no program", () -> house.mend(0));
        Check.untimely("active", () -> house.wake(0));
        Check.untimely("in quarantine", () -> house.take(0));
        Check.bad("trust", () -> house.setTrust(0, 101));
        Check.bad("quota", () -> house.setQuota(0, 2001));
        Check.bad("budget", () -> house.setBudget(5, 9));
        Check.due("versions stay", house.versions(0), 1);
        Check.due("the draft stays", house.length(), 1);
        Check.due("the state stays", house.state(0), 1);
        Check.due("trust stays", house.trust(0), 80);
        Check.due("the quota stays", house.setQuota(0, 1), 500);
        Check.due("the budget stays", house.setBudget(1, 1), 300);
        house.setAside(0);
        Check.untimely("aside", () -> house.setAside(0));
        Check.due("it stays aside", house.isAside(0), true);
    }
}
