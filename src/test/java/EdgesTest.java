/** Each sentence of the document that names an edge: the last value that is taken, and the next one beside it. */
public final class EdgesTest {
    private static final int LOW = Integer.MIN_VALUE;
    private static final int HIGH = Integer.MAX_VALUE;
    private static final String SIGNS = "0123456789abcdfghknqsuxzAB?:@{}();=<>+-*/%!&|";
    private static final String NO_END = "@999{}";

    private interface OfOne {
        Object on(SievePost house, int value);
    }

    private EdgesTest() {
    }

    public static void main(String[] args) {
        signsOfTheLanguage();
        draftOf160Signs();
        emptyDraft();
        eightSignsOpen();
        numbersOfThreeDigits();
        placesOfFaults();
        heldBetweenBounds();
        quotientsAndRemainders();
        truths();
        names();
        blocksByNumber();
        foldersAndFlagsByNumber();
        eachStepMetAndGoneOver();
        limitsMetAndGoneOver();
        brokenOffWithoutTrace();
        rangesOfParameters();
        placesInALine();
        eightRules();
        sixVersions();
        sameTexts();
        boundsOfStrikes();
        strikesInARow();
        linesOfRules();
        sixtyLetters();
        doubtAndTrust();
        releasedAndDiscarded();
        fullFolders();
        hours();
        runsOfAWay();
        waysAnewAtTheEdges();
        Check.end();
    }

    /** A house in the hour 54, of whose only rule a letter of sender 3, size 7, doubt 50 and kind 2 is the first one. */
    private static SievePost ran(String text, int budget) {
        SievePost house = new SievePost();
        house.setBudget(budget, 2);
        house.pass(54);
        Check.rule(house, text);
        house.arrive(3, 7, 50, 2);
        return house;
    }

    /** An expression's value, by the codes and from the text. */
    private static void reckoned(String ahead, String expression, int due) {
        SievePost house = ran(ahead + "A=" + expression + ";?A=" + told(due) + "{g3;}", 2000);
        Check.due(ahead + expression, house.memory(0, false), due);
        Check.due(ahead + expression + " is " + due, house.flags(0), 8);
        Check.due(ahead + expression + " is " + due + " from the text", house.flagsAnew(0), 8);
    }

    private static String told(int value) {
        int plain = Math.abs(value);
        String sign = value < 0 ? "-" : "";
        return plain < 1000 ? sign + plain : sign + "(" + plain / 10 + "*10+" + plain % 10 + ")";
    }

    private static void signsOfTheLanguage() {
        Check.due("the language has 44 signs and one", SIGNS.length(), 45);
        for (int number = 0; number <= 65535; number++) {
            char sign = (char) number;
            boolean isBlank = sign == ' ';
            boolean isSign = SIGNS.indexOf(sign) >= 0;
            SievePost house = new SievePost();
            Object first = Check.answer(() -> house.type(sign, ' ', ' ', ' '));
            Object second = Check.answer(() -> house.type(' ', sign, ' ', ' '));
            Object third = Check.answer(() -> house.type(' ', ' ', sign, ' '));
            Object fourth = Check.answer(() -> house.type(' ', ' ', ' ', sign));
            for (int place = 1; place <= 4; place++) {
                Object got = place == 1 ? first : place == 2 ? second : place == 3 ? third : fourth;
                Object due = isSign ? (Object) place : isBlank ? (Object) 0 : "IllegalArgumentException";
                if (!got.equals(due)) {
                    Check.due("2: sign " + number + " at place " + place, got, due);
                }
            }
            if (house.length() != (isSign ? 4 : 0)) {
                Check.due("2: length behind the sign " + number, house.length(), isSign ? 4 : 0);
            }
        }
    }

    private static void draftOf160Signs() {
        for (int signs = 1; signs <= 4; signs++) {
            for (int had = 160 - signs; had <= 160; had++) {
                SievePost house = new SievePost();
                Check.typeAll(house, "n;".repeat(80).substring(0, had));
                String more = "(n;n;".substring(1, 1 + signs) + "    ";
                Object due = had + signs > 160 ? (Object) "IllegalStateException" : (Object) (had + signs);
                Check.due("2: " + signs + " signs behind " + had,
                    Check.answer(() -> house.type(more.charAt(0), more.charAt(1), more.charAt(2), more.charAt(3))), due);
                Check.due("18: length", house.length(), had + signs > 160 ? had : 160);
                Check.due("2: no sign behind that", house.type(' ', ' ', ' ', ' '), house.length());
            }
        }
        SievePost house = new SievePost();
        Check.typeAll(house, "n;".repeat(80));
        Check.due("4: 160 signs that are a program", house.fault(), -1);
        Check.bad("2: no sign of the language, in a full draft", () -> house.type(' ', ' ', ' ', 'e'));
        Check.untimely("2: a sign of the language, in a full draft", () -> house.type(' ', ' ', ' ', 'n'));
        Check.due("3: wipe of 160 signs", house.wipe(), 160);
        Check.due("2: an empty draft takes four again", house.type('n', ';', 'n', ';'), 4);
        SievePost begun = new SievePost();
        Check.typeAll(begun, "a=" + "-".repeat(158));
        Check.due("4: 160 signs that are no program yet", begun.fault(), 160);
        Check.bad("5: 160 signs that are no program yet", () -> begun.addRule(1));
        Check.due("5: 160 signs make a rule", Check.rule(new SievePost(), "n;".repeat(80)), 0);
        SievePost most = ran("A=" + "!".repeat(156) + "7;", 2000);
        Check.due("36: 158 steps of 160 signs", most.cost(0), 158);
        Check.due("42: 158 steps of 160 signs", most.costAnew(0), 158);
        Check.due("24: an even row of !", most.memory(0, false), 1);
        // the texts that make the most of 160 signs: each is run to its last sign, and not a step too far
        Object[][] rows = {{"f01" + "&1".repeat(78) + ";", 1, 158}, {"f00" + "|0".repeat(77) + "|3;", 1, 158},
            {"f4;f" + "1&".repeat(76) + "00;", 0, 156}, {"f4;f" + "0|".repeat(76) + "00;", 0, 156},
            {"f" + "!".repeat(156) + "05;", 1, 158}, {"f1" + "+0".repeat(78) + ";", 1, 158}, {"f1" + "*1".repeat(78) + ";", 1, 158},
            {"@1{}".repeat(39) + "f5;", 5, 119}, {"?1{}:{}".repeat(22) + "f5;", 5, 46}, {"f5;" + "n;".repeat(78), 5, 3}};
        for (Object[] row : rows) {
            String text = (String) row[0];
            int steps = (Integer) row[2];
            Check.due("a text of at most 160 signs", text.length() > 155 && text.length() <= 160, true);
            SievePost met = ran(text, steps);
            Check.due("34: met exactly by " + text, met.meantFor(0), row[1]);
            Check.due("40: met exactly by " + text, met.meantAnew(0), row[1]);
            Check.due("36: met exactly by " + text, met.cost(0), steps);
            Check.due("42: met exactly by " + text, met.costAnew(0), steps);
            SievePost over = ran(text, steps - 1);
            Check.due("39: gone over by " + text, over.wayEnd(0, 0), 4);
            Check.due("43: gone over by " + text, over.endAnew(0, 0), 4);
        }
    }

    private static void emptyDraft() {
        SievePost house = new SievePost();
        Check.due("1: an empty draft", house.length(), 0);
        Check.due("3: an empty draft had no signs", house.wipe(), 0);
        Check.due("4: an empty draft is a program", house.fault(), -1);
        Check.due("2: no signs are put", house.type(' ', ' ', ' ', ' '), 0);
        Check.due("5: an empty draft makes a rule", house.addRule(1), 0);
        Check.due("20: the empty text is a program", house.programs(), 1);
        Check.due("6: an empty draft mends", house.mend(0), 0);
        Check.due("20: the same one", house.programs(), 1);
        Check.due("22: a version more", house.versions(0), 2);
        house.setBudget(0, 1);
        house.arrive(0, 1, 0, 0);
        Check.due("39: an empty program needs no step", house.wayEnd(0, 0), 0);
        Check.due("43: an empty program needs no step", house.endAnew(0, 0), 0);
        Check.due("36: it costs none", house.cost(0), 0);
        Check.due("36: an empty block has no step of its own", ran("?1{}:{}", 2).wayEnd(0, 0), 0);
    }

    private static void eightSignsOpen() {
        String[] blocks = {"@1{", "?1{"};
        for (int braces = 0; braces <= 8; braces++) {
            for (String block : blocks) {
                String ahead = block.repeat(braces);
                int left = 8 - braces;
                String behind = "}".repeat(braces);
                fault(ahead + "A=" + "(".repeat(left) + "1" + ")".repeat(left) + ";" + behind, -1);
                fault(ahead + "A=" + "(".repeat(left + 1), ahead.length() + 2 + left);
                fault(ahead + "A=" + "(".repeat(left + 1) + "1" + ")".repeat(left + 1) + ";" + behind, ahead.length() + 2 + left);
                fault(ahead + "A=" + "(".repeat(left), ahead.length() + 2 + left);
                SievePost house = ran(ahead + "A=" + "(".repeat(left) + "7" + ")".repeat(left) + ";" + behind, 300);
                Check.due("8 open are run", house.memory(0, false), 7);
                Check.due("8 open are told anew", house.costAnew(0), house.cost(0));
            }
        }
        String seven = "?1{".repeat(7);
        fault(seven + "?1{" + "n;" + "}".repeat(8), -1);
        fault(seven + "?1{" + "?1{", 26);
        fault(seven + "?1{" + "@1{", 26);
        fault(seven + "?1{" + "?1", 26);
        fault(seven + "?1{" + "?1;", 26);
        fault(seven + "?1{" + "?1}", 26);
        fault(seven + "?1{" + "?1}" + "}".repeat(7), 26);
        fault(seven + "?1{" + "@1}" + "}".repeat(7), 26);
        fault(seven + "?1{" + "?1:", 26);
        fault(seven + "?1{}:}" + "}".repeat(7), 26);
        fault(seven + "?1{}:{}" + "}".repeat(7), -1);
        fault(seven + "?1{}:{?1{", 29);
        fault(seven + "?(1){}" + "}".repeat(7), -1);
        fault(seven + "?((1)){}", 23);
        fault("f((((((((1))))))))+(((((((((1", 27);
        fault("f((((((((1))))))))+((((((((1))))))));f((((((((1))))))));", -1);
        fault("f" + "(".repeat(8) + "{", 9);
        fault("f" + "(".repeat(8) + ")", 9);
    }

    private static void numbersOfThreeDigits() {
        fault("a=0;", -1);
        fault("a=99;", -1);
        fault("a=999;", -1);
        fault("a=9990;", 5);
        fault("a=0000;", 5);
        fault("a=1+1234;", 7);
        fault("?1234{}", 4);
        reckoned("", "0", 0);
        reckoned("", "999", 999);
        reckoned("", "000", 0);
        reckoned("", "09", 9);
        reckoned("", "010", 10);
    }

    private static void fault(String text, int due) {
        Check.due("4: fault of " + text, Check.faultOf(text), due);
    }

    private static void placesOfFaults() {
        String begins = "?@abcABfgunxq";
        for (char sign : SIGNS.toCharArray()) {
            fault("" + sign, begins.indexOf(sign) < 0 ? 0 : 1);
            fault("n" + sign, sign == ';' ? -1 : 1);
            fault("n;" + sign, begins.indexOf(sign) < 0 ? 2 : 3);
            fault("a" + sign, sign == '=' ? 2 : 1);
            fault("?1" + sign, "0123456789+-*/%=<>&|{".indexOf(sign) < 0 ? 2 : 3);
            fault("f1=1" + sign, sign == ';' ? -1 : "0123456789+-*/%&|".indexOf(sign) < 0 ? 4 : 5);
            fault("fs" + sign, sign == ';' ? -1 : "+-*/%=<>&|".indexOf(sign) < 0 ? 2 : 3);
            fault("f(1" + sign, "0123456789+-*/%=<>&|)".indexOf(sign) < 0 ? 3 : 4);
            fault("f" + sign, "0123456789abcABszdkh-!(".indexOf(sign) < 0 ? 1 : 2);
            fault("f1+" + sign, "0123456789abcABszdkh-!(".indexOf(sign) < 0 ? 3 : 4);
            fault("?1{" + sign, sign == '}' ? -1 : begins.indexOf(sign) < 0 ? 3 : 4);
            fault("?1{}" + sign, sign != ':' && begins.indexOf(sign) < 0 ? 4 : 5);
            fault("?1{}:" + sign, sign == '{' ? 6 : 5);
            fault("?1{}:{}" + sign, begins.indexOf(sign) < 0 ? 7 : 8);
            fault("@1{}" + sign, begins.indexOf(sign) < 0 ? 4 : 5);
        }
    }

    private static void heldBetweenBounds() {
        String ahead = "a=999*10+9;b=-a;";
        Object[][] rows = {{"a", 9999}, {"b", -9999}, {"a+0", 9999}, {"a+1", 9999}, {"a-1", 9998}, {"a-1+1", 9999}, {"a+a", 9999},
            {"b-0", -9999}, {"b-1", -9999}, {"b+1", -9998}, {"b+1-1", -9999}, {"b+b", -9999}, {"b-a", -9999}, {"a-b", 9999},
            {"a+b", 0}, {"a-a", 0}, {"a-1+2", 9999}, {"b+1-2", -9999}, {"-a", -9999}, {"-b", 9999}, {"--a", 9999},
            {"---a", -9999}, {"a*1", 9999}, {"a*2", 9999}, {"a*-1", -9999}, {"a*-2", -9999}, {"a*a", 9999}, {"a*b", -9999},
            {"b*b", 9999}, {"b*1", -9999}, {"b*2", -9999}, {"b*-2", 9999}, {"99*101", 9999}, {"100*100", 9999},
            {"99*-101", -9999}, {"-100*100", -9999}, {"2*5*999+8", 9998}, {"2*5*999+9", 9999}, {"2*5*999+10", 9999},
            // held each time, not only at the end
            {"a+1-1", 9998}, {"b-1+1", -9998}, {"a*2/2", 4999}, {"b*2/2", -4999}, {"a+(1-1)", 9999}, {"a*a-a", 0},
            {"100*100-999", 9000}, {"a+999-999", 9000}, {"a*0", 0}, {"b*0", 0}};
        for (Object[] row : rows) {
            reckoned(ahead, (String) row[0], (Integer) row[1]);
        }
        SievePost up = new SievePost();
        SievePost down = new SievePost();
        Check.rule(up, "A=A+999;B=B-999;");
        Check.rule(down, "A=A-999;B=B+999;");
        for (int count = 1; count <= 12; count++) {
            up.arrive(0, 1, 0, 0);
            down.arrive(0, 1, 0, 0);
            int due = Math.min(9999, 999 * count);
            Check.due("24: A up to 9999", up.memory(0, false), due);
            Check.due("24: B down to -9999", up.memory(0, true), -due);
            Check.due("24: A down to -9999", down.memory(0, false), -due);
            Check.due("24: B up to 9999", down.memory(0, true), due);
        }
    }

    private static void quotientsAndRemainders() {
        String ahead = "a=999*10+9;b=-a;";
        Object[][] rows = {{"7/2", 3}, {"-7/2", -3}, {"7/-2", -3}, {"-7/-2", 3}, {"6/2", 3}, {"1/2", 0}, {"-1/2", 0}, {"0/5", 0},
            {"a/1", 9999}, {"b/-1", 9999}, {"a/b", -1}, {"b/a", -1}, {"a/2", 4999}, {"b/2", -4999}, {"998/999", 0}, {"-998/999", 0},
            {"7%2", 1}, {"-7%2", -1}, {"7%-2", 1}, {"-7%-2", -1}, {"6%2", 0}, {"-6%2", 0}, {"2%7", 2}, {"-2%7", -2}, {"0%5", 0},
            {"a%b", 0}, {"b%100", -99}, {"a%100", 99}, {"a%1", 0}, {"b%-1", 0},
            // by 0 both are 0, and the run goes on
            {"1/0", 0}, {"-1/0", 0}, {"0/0", 0}, {"a/0", 0}, {"b/0", 0}, {"1%0", 0}, {"-1%0", 0}, {"0%0", 0}, {"a%0", 0}, {"b%0", 0},
            {"5/(3-3)", 0}, {"5%(3-3)", 0}, {"5/-0", 0}, {"5/0+1", 1}, {"5%0+1", 1}, {"5/0/0", 0}, {"5/!1", 0}, {"8/2/2", 2},
            {"8/(2/2)", 8}, {"7%4%2", 1}, {"7%(4%2)", 0}, {"9*5/2", 22}, {"5/2*9", 18}};
        for (Object[] row : rows) {
            reckoned(ahead, (String) row[0], (Integer) row[1]);
        }
    }

    private static void truths() {
        String ahead = "a=999*10+9;b=-a;c=-1;";
        Object[][] rows = {{"1=1", 1}, {"1=2", 0}, {"a=a", 1}, {"a=b", 0}, {"0=-0", 1}, {"1<2", 1}, {"2<2", 0}, {"3<2", 0}, {"c<0", 1},
            {"b<a", 1}, {"a<b", 0}, {"2>1", 1}, {"2>2", 0}, {"2>3", 0}, {"0>c", 1}, {"a>b", 1}, {"!0", 1}, {"!1", 0}, {"!c", 0}, {"!a", 0},
            {"!b", 0}, {"!!a", 1}, {"!-0", 1}, {"-!0", -1},
            {"0&0", 0}, {"0&1", 0}, {"1&0", 0}, {"1&1", 1}, {"c&a", 1}, {"b&c", 1}, {"a&0", 0}, {"0|0", 0}, {"0|1", 1}, {"1|0", 1},
            {"1|1", 1}, {"0|c", 1}, {"0|a", 1}, {"c|0", 1}, {"b|0", 1}, {"5&6", 1}, {"0|6", 1}, {"1&1&1", 1}, {"1&1&0", 0}, {"0|0|1", 1},
            {"0|0|0", 0}, {"1&0|1", 1}, {"0|1&0", 0}, {"1|0&0", 1}, {"1|1&0", 1}, {"(1|1)&0", 0}};
        for (Object[] row : rows) {
            reckoned(ahead, (String) row[0], (Integer) row[1]);
        }
    }

    private static void names() {
        int[][] letters = {{0, 1, 0, 0}, {15, 200, 100, 9}, {7, 100, 50, 5}};
        for (int[] one : letters) {
            for (int hours : new int[] {0, 1, 23, 24, 25, 47, 48}) {
                for (int number = 0; number < 5; number++) {
                    SievePost house = new SievePost();
                    if (hours > 0) {
                        house.pass(hours);
                    }
                    house.setTrust(one[0], 100);
                    Check.rule(house, "A=" + "szdkh".charAt(number) + ";@A{}");
                    house.arrive(one[0], one[1], one[2], one[3]);
                    int due = number == 4 ? hours % 24 : one[number];
                    Check.due("the name " + "szdkh".charAt(number), house.memory(0, false), due);
                    Check.due("the name, anew, " + "szdkh".charAt(number), house.costAnew(0), due + 4);
                }
            }
        }
        SievePost house = new SievePost();
        Check.rule(house, "A=a+b+c+1;a=5;b=6;c=7;B=a+b+c;");
        house.arrive(0, 1, 0, 0);
        house.arrive(0, 1, 0, 0);
        Check.due("a, b and c are 0 when a run begins", house.memory(0, false), 1);
        Check.due("a, b and c in a run", house.memory(0, true), 18);
        SievePost two = new SievePost();
        Check.rule(two, "a=1;b=2;c=3;A=4;B=5;");
        Check.rule(two, "A=A+a+b+c+B+1;");
        two.arrive(0, 1, 0, 0);
        Check.due("they are 0 for the next rule of the letter", two.memory(1, false), 1);
    }

    private static void blocksByNumber() {
        String ahead = "a=999*10+9;b=-a;";
        Object[][] choices = {{"0", 2}, {"-0", 2}, {"1", 1}, {"-1", 1}, {"2", 1}, {"a", 1}, {"b", 1}, {"1-1", 2}, {"0&1", 2}};
        for (Object[] row : choices) {
            SievePost house = ran(ahead + "?" + row[0] + "{f1;g1;}:{f2;g2;}", 300);
            Check.due("? " + row[0], house.meantFor(0), row[1]);
            Check.due("? anew " + row[0], house.meantAnew(0), row[1]);
            Check.due("? runs one block alone " + row[0], house.flags(0), 1 << (Integer) row[1]);
            SievePost one = ran(ahead + "?" + row[0] + "{f1;}g0;", 300);
            Check.due("? without a second block " + row[0], one.meantFor(0), row[1].equals(1) ? 1 : 0);
            Check.due("? goes on behind it " + row[0], one.flagsAnew(0), 1);
        }
        Object[][] loops = {{"b", 0}, {"-999", 0}, {"-1", 0}, {"0", 0}, {"1-1", 0}, {"1", 1}, {"2", 2}, {"3", 3}, {"99", 99}, {"300", 300}};
        for (Object[] row : loops) {
            int times = (Integer) row[1];
            SievePost house = ran(ahead + "@" + row[0] + "{A=A+1;}B=7;", 2000);
            Check.due("@ " + row[0], house.memory(0, false), times);
            Check.due("@ goes on behind it " + row[0], house.memory(0, true), 7);
            Check.due("@ anew " + row[0], house.costAnew(0), house.cost(0));
        }
        Check.due("@ is reckoned once, ahead", ran("a=3;@a{a=a+5;A=A+1;}", 300).memory(0, false), 3);
        Check.due("@ is reckoned once, ahead", ran("a=3;@a{a=0;A=A+1;}", 300).memory(0, false), 3);
        Check.due("@ in @", ran("@3{@4{A=A+1;}}", 300).memory(0, false), 12);
        Check.due("@ in @ anew", ran("@3{@4{A=A+1;}}", 300).costAnew(0), 2 + 3 * (1 + 2 + 4 * 5));
        Check.due("@ with an inner number of its own", ran("@3{a=a+1;@a{A=A+1;}}", 300).memory(0, false), 6);
        Check.due("n ends the run in the first block of @", ran("@3{A=A+1;n;}A=9;", 300).memory(0, false), 1);
    }

    private static void foldersAndFlagsByNumber() {
        String ahead = "a=999*10+9;b=-a;";
        String[] numbers = {"b", "-32", "-31", "-1", "0", "1", "2", "3", "4", "5", "6", "31", "32", "33", "34", "64", "256", "a"};
        int[] values = {-9999, -32, -31, -1, 0, 1, 2, 3, 4, 5, 6, 31, 32, 33, 34, 64, 256, 9999};
        for (int at = 0; at < values.length; at++) {
            int value = values[at];
            SievePost house = ran(ahead + "f3;f" + numbers[at] + ";", 300);
            int folder = value >= 0 && value <= 5 ? value : 3;
            Check.due("f " + value, house.meantFor(0), folder);
            Check.due("f, filed, " + value, house.folderOf(0), folder);
            Check.due("f anew " + value, house.meantAnew(0), folder);
            int flag = value >= 0 && value <= 3 ? 1 << value : 0;
            SievePost raised = ran(ahead + "g" + numbers[at] + ";", 300);
            Check.due("g " + value, raised.flags(0), flag);
            Check.due("g anew " + value, raised.flagsAnew(0), flag);
            SievePost down = ran(ahead + "g0;g1;g2;g3;u" + numbers[at] + ";", 300);
            Check.due("u " + value, down.flags(0), 15 - flag);
            Check.due("u anew " + value, down.flagsAnew(0), 15 - flag);
            Check.due("with another number nothing happens, but the steps", down.cost(0), ran(ahead + "g0;g1;g2;g3;f"
                + numbers[at] + ";", 300).cost(0));
        }
        Check.due("a flag is raised twice", ran("g2;g2;", 300).flags(0), 4);
        Check.due("a flag is taken down twice", ran("g2;g1;u2;u2;", 300).flags(0), 2);
        Check.due("a flag that isn't up is taken down", ran("u0;u3;", 300).flagsAnew(0), 0);
        Check.due("34: meant for 0 at first", ran("", 300).meantFor(0), 0);
        Check.due("35: no flags at first", ran("", 300).flags(0), 0);
    }

    private static void eachStepMetAndGoneOver() {
        Object[][] rows = {{"", 0, 0}, {"n;", 1, 1}, {"x;", 1, 2}, {"q;", 1, 3}, {"A=1;", 2, 0}, {"A=s;", 2, 0}, {"A=A;", 2, 0},
            {"A=(1);", 2, 0}, {"A=999;", 2, 0}, {"f1;", 2, 0}, {"f9;", 2, 0}, {"g1;", 2, 0}, {"g9;", 2, 0}, {"u1;", 2, 0}, {"A=-1;", 3, 0},
            {"A=!1;", 3, 0}, {"A=1+2;", 4, 0}, {"A=1-2;", 4, 0}, {"A=1*2;", 4, 0}, {"A=1/2;", 4, 0}, {"A=1/0;", 4, 0}, {"A=1%2;", 4, 0},
            {"A=1%0;", 4, 0}, {"A=1=2;", 4, 0}, {"A=1<2;", 4, 0}, {"A=1>2;", 4, 0}, {"A=1&2;", 4, 0}, {"A=0&2;", 3, 0}, {"A=1|2;", 3, 0},
            {"A=0|2;", 4, 0}, {"A=1+2+3;", 6, 0}, {"A=1*2+3;", 6, 0}, {"A=1+2*3;", 6, 0}, {"A=-(1+2);", 5, 0}, {"A=0&(1+2);", 3, 0},
            {"A=1|(1+2);", 3, 0}, {"A=0&2*3;", 3, 0}, {"A=0&1=1;", 3, 0}, {"A=1|1&1;", 3, 0}, {"A=0&1|1;", 5, 0},
            // a row is reckoned from the left: each sign has a left side that is known, also behind the one that settled it
            {"A=0&1&1;", 4, 0}, {"A=0&1&1&1;", 5, 0}, {"A=1&0&1;", 5, 0}, {"A=1|0|0;", 4, 0}, {"A=1|0|0|0;", 5, 0}, {"A=0|1|1;", 5, 0},
            {"A=0|0|1|1;", 7, 0}, {"A=0&1|0&1|1;", 8, 0}, {"A=1|1&0|1;", 4, 0}, {"A=0&(1&1)&1;", 4, 0}, {"A=0&(1|1&1);", 3, 0},
            {"?0{}", 2, 0}, {"?1{}", 2, 0}, {"?0{n;}", 2, 0}, {"?1{n;}", 3, 1}, {"?0{}:{n;}", 3, 1}, {"?1{}:{n;}", 2, 0},
            {"@-1{}", 3, 0}, {"@0{}", 2, 0}, {"@1{}", 3, 0}, {"@2{}", 4, 0}, {"@2{n;}", 4, 1}, {"@2{f1;}", 8, 0}, {"@2{x;}", 4, 2},
            {"@1{@1{q;}}", 7, 3}, {"n;n;", 1, 1}, {"A=1;q;", 3, 3}};
        for (Object[] row : rows) {
            String text = (String) row[0];
            int steps = (Integer) row[1];
            SievePost met = ran(text, steps);
            Check.due("39: " + steps + " steps, met by " + text, met.wayEnd(0, 0), row[2]);
            Check.due("43: " + steps + " steps, met by " + text, met.endAnew(0, 0), row[2]);
            Check.due("36: cost of " + text, met.cost(0), steps);
            Check.due("42: cost of " + text, met.costAnew(0), steps);
            Check.due("27: steps of " + text, met.steps(0), steps);
            Check.due("28: most of " + text, met.most(0), steps);
            Check.due("26: none is broken off by " + text, met.runs(0, true), 0);
            for (int limit = 0; limit < steps; limit++) {
                SievePost over = ran(text, limit);
                Check.due("39: " + limit + " steps, gone over by " + text, over.wayEnd(0, 0), 4);
                Check.due("43: " + limit + " steps, gone over by " + text, over.endAnew(0, 0), 4);
                Check.due("36: no cost of " + text, over.cost(0), 0);
                Check.due("42: no cost of " + text, over.costAnew(0), 0);
                Check.due("27: as many as its limit by " + text, over.steps(0), limit);
                Check.due("28: as many as its limit by " + text, over.most(0), limit);
                Check.due("26: one is broken off by " + text, over.runs(0, true), 1);
                Check.due("24: no trace of " + text, over.memory(0, false), 0);
                Check.due("34: no trace of " + text, over.meantFor(0), 0);
                Check.due("32: the next rule is gone to, and there is none", over.state(0), 0);
            }
        }
    }

    private static void limitsMetAndGoneOver() {
        SievePost plain = new SievePost();
        Check.rule(plain, "@298{}", 2);
        Check.rule(plain, "@299{}", 4);
        plain.arrive(0, 1, 0, 1);
        plain.arrive(0, 1, 0, 2);
        Check.due("9: 300 steps meet the first budget", plain.wayEnd(0, 0), 0);
        Check.due("9: 301 go over it", plain.wayEnd(1, 0), 4);
        Check.due("27: 300 in the one", plain.steps(0), 300);
        Check.due("27: and 300 in the other", plain.steps(1), 300);
        SievePost most = new SievePost();
        most.setBudget(2000, 1);
        Check.rule(most, "@999{}@997{}", 2);
        Check.rule(most, "@999{}@998{}", 4);
        most.arrive(0, 1, 0, 1);
        most.arrive(0, 1, 0, 2);
        Check.due("9: 2000 steps meet the greatest budget", most.wayEnd(0, 0), 0);
        Check.due("36: 2000 steps", most.cost(0), 2000);
        Check.due("42: 2000 steps", most.costAnew(0), 2000);
        Check.due("9: 2001 go over it", most.wayEnd(1, 0), 4);
        Check.due("28: 2000 steps", most.most(1), 2000);
        Check.due("32: it waits, by the bound 1", most.state(1), 2);
        for (int second = 198; second <= 200; second++) {
            SievePost rest = new SievePost();
            Check.rule(rest, "@98{}");
            Check.rule(rest, "@" + second + "{}");
            rest.arrive(0, 1, 0, 0);
            boolean isOver = second > 198;
            Check.due("the limit is less what the letter spent", rest.wayEnd(0, 1), isOver ? 4 : 0);
            Check.due("the limit, anew", rest.endAnew(0, 1), isOver ? 4 : 0);
            Check.due("27: up to that limit", rest.steps(1), 200);
            Check.due("36: cost", rest.cost(0), isOver ? 100 : 300);
            rest.arrive(0, 1, 0, 0);
            Check.due("each letter has a budget of its own", rest.wayEnd(1, 0), 0);
        }
        SievePost broken = new SievePost();
        broken.setBudget(100, 5);
        Check.rule(broken, NO_END);
        Check.rule(broken, "@98{}");
        Check.rule(broken, "");
        Check.rule(broken, "n;");
        broken.arrive(0, 1, 0, 0);
        Check.due("steps of a run that was broken off are not taken off", broken.wayEnd(0, 1), 0);
        Check.due("at a limit of 0 a program without a step goes through", broken.wayEnd(0, 2), 0);
        Check.due("at a limit of 0 a step goes over it", broken.wayEnd(0, 3), 4);
        Check.due("36: cost", broken.cost(0), 100);
        Check.due("27: no step at a limit of 0", broken.steps(3), 0);
        Check.due("26: but a run", broken.runs(3, true), 1);
        SievePost less = new SievePost();
        Check.rule(less, "@98{}q;");
        Check.rule(less, "");
        Check.rule(less, "f1;");
        for (int letter = 0; letter < 3; letter++) {
            less.arrive(0, 1, 0, 0);
        }
        int[] budgets = {103, 102, 0};
        for (int letter = 0; letter < 3; letter++) {
            less.setBudget(budgets[letter], 5);
            less.release(letter);
            Check.due("the budget is that of now, less 101, but at least 0", less.wayEnd(letter, 2), letter == 0 ? 0 : 4);
            Check.due("of 0 an empty program has enough", less.wayEnd(letter, 1), 0);
            Check.due("the limit as it was then", less.endAnew(letter, 2), letter == 0 ? 0 : 4);
        }
        Check.due("27: 2 steps, 1 step, none", less.steps(2), 3);
        Check.due("28: 2 steps", less.most(2), 2);
    }

    private static void brokenOffWithoutTrace() {
        SievePost house = new SievePost();
        house.setBudget(60, 5);
        Check.rule(house, "f3;g2;g1;");
        Check.rule(house, "A=A+1;B=B-1;f1;u2;g0;@z{}");
        house.arrive(0, 1, 0, 0);
        Check.due("34: meant for 1", house.meantFor(0), 1);
        Check.due("35: flags 0 and 1", house.flags(0), 3);
        house.arrive(0, 200, 0, 0);
        Check.due("24: A is as it was ahead of it", house.memory(1, false), 1);
        Check.due("24: B is as it was ahead of it", house.memory(1, true), -1);
        Check.due("34: the folder is as it was ahead of it", house.meantFor(1), 3);
        Check.due("35: the flags are as they were ahead of it", house.flags(1), 6);
        Check.due("40: the folder, anew", house.meantAnew(1), 3);
        Check.due("41: the flags, anew", house.flagsAnew(1), 6);
        Check.due("33: filed by it", house.folderOf(1), 3);
        Check.due("37: the way has the run", house.way(1), 2);
        house.arrive(0, 1, 0, 0);
        Check.due("24: A goes on from there", house.memory(1, false), 2);
        Check.due("24: B goes on from there", house.memory(1, true), -2);
    }

    private static void range(String what, OfOne call, int least, int most, Class<? extends RuntimeException> thrown) {
        for (int value : new int[] {LOW, least - 1, least, most, most + 1, HIGH}) {
            SievePost house = new SievePost();
            Check.rule(house, "q;");
            house.arrive(0, 1, 0, 0);
            Object got = Check.answer(() -> call.on(house, value));
            boolean isTaken = value >= least && value <= most;
            if (isTaken) {
                Check.due(what + " takes " + value, got instanceof String, false);
            } else {
                Check.due(what + " refuses " + value, got, thrown.getSimpleName());
            }
        }
    }

    private static void rangesOfParameters() {
        Class<IndexOutOfBoundsException> none = IndexOutOfBoundsException.class;
        Class<IllegalArgumentException> bad = IllegalArgumentException.class;
        range("5: scope", (house, value) -> house.addRule(value), 1, 1023, bad);
        range("6: rule", (house, value) -> house.mend(value), 0, 0, none);
        range("8: rule", (house, value) -> house.setAside(value), 0, 0, none);
        range("7: rule", (house, value) -> value == 0 ? house.setAside(0) + house.wake(0) : house.wake(value), 0, 0, none);
        range("9: steps", (house, value) -> house.setBudget(value, 1), 0, 2000, bad);
        range("9: strikes", (house, value) -> house.setBudget(0, value), 1, 5, bad);
        range("10: sender", (house, value) -> house.arrive(value, 1, 0, 0), 0, 15, none);
        range("10: size", (house, value) -> house.arrive(0, value, 0, 0), 1, 200, bad);
        range("10: doubt", (house, value) -> house.arrive(0, 1, value, 0), 0, 100, bad);
        range("10: kind", (house, value) -> house.arrive(0, 1, 0, value), 0, 9, bad);
        range("11: letter", (house, value) -> house.release(value), 0, 0, none);
        range("12: letter", (house, value) -> house.discard(value), 0, 0, none);
        range("13: letter", (house, value) -> value == 0 ? house.release(0) + house.take(0) : house.take(value), 0, 0, none);
        range("14: sender", (house, value) -> house.setTrust(value, 1), 0, 15, none);
        range("14: trust", (house, value) -> house.setTrust(0, value), 0, 100, bad);
        range("15: folder", (house, value) -> house.setQuota(value, 1), 0, 4, none);
        range("15: quota", (house, value) -> house.setQuota(0, value), 0, 2000, bad);
        range("16: hours", (house, value) -> house.pass(value), 1, 100, bad);
        range("21: rule", (house, value) -> house.isAside(value), 0, 0, none);
        range("22: rule", (house, value) -> house.versions(value), 0, 0, none);
        range("23: rule", (house, value) -> house.programOf(value, 0), 0, 0, none);
        range("23: version", (house, value) -> house.programOf(0, value), 0, 0, none);
        range("24: rule, A", (house, value) -> house.memory(value, false), 0, 0, none);
        range("24: rule, B", (house, value) -> house.memory(value, true), 0, 0, none);
        range("25: rule", (house, value) -> house.strikes(value), 0, 0, none);
        range("26: rule", (house, value) -> house.runs(value, false), 0, 0, none);
        range("26: rule, broken off", (house, value) -> house.runs(value, true), 0, 0, none);
        range("27: rule", (house, value) -> house.steps(value), 0, 0, none);
        range("28: rule", (house, value) -> house.most(value), 0, 0, none);
        range("29: rule", (house, value) -> house.waiting(value), 0, 0, none);
        range("30: rule", (house, value) -> house.waitingAt(value, 0), 0, 0, none);
        range("32: letter", (house, value) -> house.state(value), 0, 0, none);
        range("33: letter", (house, value) -> house.folderOf(value), 0, 0, none);
        range("34: letter", (house, value) -> house.meantFor(value), 0, 0, none);
        range("35: letter", (house, value) -> house.flags(value), 0, 0, none);
        range("36: letter", (house, value) -> house.cost(value), 0, 0, none);
        range("37: letter", (house, value) -> house.way(value), 0, 0, none);
        range("38: letter", (house, value) -> house.wayRule(value, 0), 0, 0, none);
        range("38: run", (house, value) -> house.wayRule(0, value), 0, 0, none);
        range("39: letter", (house, value) -> house.wayEnd(value, 0), 0, 0, none);
        range("39: run", (house, value) -> house.wayEnd(0, value), 0, 0, none);
        range("40: letter", (house, value) -> house.meantAnew(value), 0, 0, none);
        range("41: letter", (house, value) -> house.flagsAnew(value), 0, 0, none);
        range("42: letter", (house, value) -> house.costAnew(value), 0, 0, none);
        range("43: letter", (house, value) -> house.endAnew(value, 0), 0, 0, none);
        range("43: run", (house, value) -> house.endAnew(0, value), 0, 0, none);
        range("44: folder", (house, value) -> house.load(value), 0, 5, none);
        range("45: sender", (house, value) -> house.trust(value), 0, 15, none);
    }

    private static void placesInALine() {
        SievePost house = new SievePost();
        Check.rule(house, "n;");
        house.setAside(0);
        house.arrive(0, 1, 0, 0);
        Check.due("30: the first place", house.waitingAt(0, 0), 0);
        Check.due("30: the next one", house.waitingAt(0, 1), -1);
        Check.due("30: the greatest number", house.waitingAt(0, HIGH), -1);
        Check.bad("30: below 0", () -> house.waitingAt(0, -1));
        Check.bad("30: the least number", () -> house.waitingAt(0, LOW));
        Check.outside("30: no rule, and below 0", () -> house.waitingAt(1, -1));
    }

    private static void eightRules() {
        SievePost house = new SievePost();
        for (int number = 0; number < 8; number++) {
            int no = number;
            Check.due("19: rules", house.rules(), number);
            Check.outside("21: no such rule yet", () -> house.isAside(no));
            Check.due("5: its number", Check.rule(house, "n;"), number);
            Check.due("21: active at first", house.isAside(number), false);
            Check.due("25: no strikes at first", house.strikes(number), 0);
            Check.due("24: A is 0 at first", house.memory(number, false), 0);
            Check.due("24: B is 0 at first", house.memory(number, true), 0);
            Check.due("22: one version at first", house.versions(number), 1);
            Check.due("26: no runs at first", house.runs(number, false), 0);
        }
        Check.untimely("5: there are 8", () -> house.addRule(1));
        Check.bad("5: scope 0, and there are 8", () -> house.addRule(0));
        Check.bad("5: scope 1024, and there are 8", () -> house.addRule(1024));
        Check.due("19: 8 rules", house.rules(), 8);
        Check.outside("21: no ninth rule", () -> house.isAside(8));
        house.arrive(0, 1, 0, 0);
        Check.due("37: all 8 are gone to", house.way(0), 8);
        for (int number = 0; number < 8; number++) {
            Check.due("38: by rising numbers", house.wayRule(0, number), number);
        }
        for (int kind = 0; kind < 10; kind++) {
            SievePost kinds = new SievePost();
            Check.rule(kinds, "n;", 1 << kind);
            Check.rule(kinds, "n;", 1023 - (kind == 0 ? 1 : 1 << kind));
            Check.rule(kinds, "n;", 1023);
            for (int other = 0; other < 10; other++) {
                kinds.arrive(0, 1, 0, other);
                Check.due("38: the scope of the kind alone", kinds.wayRule(other, 0), other == kind ? 0 : 1);
                Check.due("38: the scope of all kinds", kinds.wayRule(other, 1), 2);
                Check.due("37: two runs", kinds.way(other), 2);
            }
        }
    }

    private static void sixVersions() {
        SievePost house = new SievePost();
        Check.rule(house, "A=1;");
        for (int version = 1; version < 6; version++) {
            Check.due("22: versions", house.versions(0), version);
            int no = version;
            Check.outside("23: no such version yet", () -> house.programOf(0, no));
            Check.mend(house, 0, "A=" + (version + 1) + ";");
            Check.due("23: its program", house.programOf(0, version), version);
            house.arrive(0, 1, 0, 0);
            Check.due("the latest is the one that is run", house.memory(0, false), version + 1);
        }
        Check.due("22: 6 versions", house.versions(0), 6);
        Check.untimely("6: it has 6 versions", () -> house.mend(0));
        Check.typeAll(house, ";");
        Check.bad("6: no program, and it has 6 versions", () -> house.mend(0));
        Check.outside("6: no rule, and no program", () -> house.mend(1));
        house.wipe();
        Check.rule(house, "n;");
        Check.due("6: another rule has versions left", Check.mend(house, 1, "x;"), 0);
        Check.outside("23: no seventh version", () -> house.programOf(0, 6));
    }

    private static void sameTexts() {
        SievePost house = new SievePost();
        String[] texts = {"A=1;", "A=01;", "A=(1);", "", "A=1;n;", "B=1;", "A=1;"};
        int[] numbers = {0, 1, 2, 3, 4, 5, 0};
        for (int rule = 0; rule < texts.length; rule++) {
            Check.rule(house, texts[rule]);
            Check.due("23: the program of " + texts[rule], house.programOf(rule, 0), numbers[rule]);
        }
        Check.due("20: 6 unlike programs", house.programs(), 6);
        Check.mend(house, 0, "A=1;");
        Check.due("23: the same text once more", house.programOf(0, 1), 0);
        Check.due("22: is a version all the same", house.versions(0), 2);
        Check.mend(house, 0, "A=2;");
        Check.due("23: a new one has the next number", house.programOf(0, 2), 6);
        Check.due("20: 7 unlike programs", house.programs(), 7);
        Check.typeAll(house, "A=3;");
        Check.bad("5: a refused rule", () -> house.addRule(0));
        Check.due("20: is no program", house.programs(), 7);
    }

    private static void boundsOfStrikes() {
        for (int bound = 1; bound <= 5; bound++) {
            SievePost house = new SievePost();
            house.setBudget(10, bound);
            Check.rule(house, NO_END);
            for (int strikes = 1; strikes <= bound; strikes++) {
                int letter = house.arrive(0, 1, 0, 0);
                Check.due("25: strikes", house.strikes(0), strikes);
                Check.due("21: as many as the bound " + bound, house.isAside(0), strikes == bound);
                Check.due("32: it waits only then", house.state(letter), strikes == bound ? 2 : 0);
            }
            house.arrive(0, 1, 0, 0);
            Check.due("26: no run of a rule that is set aside", house.runs(0, false), bound);
            Check.due("29: two wait", house.waiting(0), 2);
            for (int lower = 1; lower <= 5; lower++) {
                SievePost other = new SievePost();
                other.setBudget(10, 5);
                Check.rule(other, NO_END);
                for (int count = 0; count < bound - 1; count++) {
                    other.arrive(0, 1, 0, 0);
                }
                other.setBudget(10, lower);
                Check.due("9: the bound is for strikes to come", other.isAside(0), false);
                other.arrive(0, 1, 0, 0);
                Check.due("25: " + bound + " strikes", other.strikes(0), bound);
                Check.due("21: as many as the bound " + lower + ", or more", other.isAside(0), bound >= lower);
            }
        }
        SievePost first = new SievePost();
        Check.rule(first, NO_END);
        first.arrive(0, 1, 0, 0);
        Check.due("21: the first bound is above 1", first.isAside(0), false);
        first.arrive(0, 1, 0, 0);
        Check.due("21: the first bound is 2", first.isAside(0), true);
        Check.due("39: the last way", first.wayEnd(1, 0), 4);
    }

    private static void strikesInARow() {
        SievePost house = new SievePost();
        house.setBudget(10, 3);
        Check.rule(house, "@z{}");
        int[] sizes = {200, 200, 1, 200, 200, 8, 200, 200, 200};
        int[] strikes = {1, 2, 0, 1, 2, 0, 1, 2, 3};
        for (int letter = 0; letter < sizes.length; letter++) {
            house.arrive(0, sizes[letter], 0, 0);
            Check.due("25: one behind the other", house.strikes(0), strikes[letter]);
        }
        Check.due("21: 3 in a row", house.isAside(0), true);
        Check.due("7: woken, one is broken off", house.wake(0), 1);
        Check.due("25: a strike of that", house.strikes(0), 1);
        Check.due("8: its strikes stay", house.setAside(0), 1);
        Check.due("25: they stay", house.strikes(0), 1);
        Check.due("7: woken, and none waited", house.wake(0), 0);
        Check.due("25: no strikes by a wake", house.strikes(0), 0);
        house.arrive(0, 200, 0, 0);
        Check.due("6: mended while active", Check.mend(house, 0, "@z{}"), 0);
        Check.due("25: no strikes by a mend", house.strikes(0), 0);
        SievePost other = new SievePost();
        other.setBudget(10, 2);
        Check.rule(other, "@z{}", 1);
        Check.rule(other, "@z{}", 3);
        other.arrive(0, 200, 0, 0);
        other.arrive(0, 1, 0, 1);
        Check.due("25: of another rule they stay", other.strikes(0), 1);
        Check.due("25: of this one they are 0", other.strikes(1), 0);
        SievePost ends = new SievePost();
        ends.setBudget(20, 5);
        Check.rule(ends, "?k=1{n;}?k=2{x;}?k=3{q;}@z{}");
        for (int kind = 1; kind <= 3; kind++) {
            ends.arrive(0, 200, 0, 0);
            Check.due("25: a strike", ends.strikes(0), 1);
            ends.arrive(0, 200, 0, kind);
            Check.due("25: ended by n, x or q", ends.strikes(0), 0);
        }
    }

    private static void linesOfRules() {
        SievePost house = new SievePost();
        house.setBudget(30, 2);
        Check.rule(house, "@z{}");
        Check.rule(house, "A=A+1;");
        house.setAside(0);
        Check.due("29: none wait", house.waiting(0), 0);
        Check.due("30: none at the first place", house.waitingAt(0, 0), -1);
        int[] sizes = {200, 1, 200, 200, 1, 200};
        for (int letter = 0; letter < sizes.length; letter++) {
            house.arrive(0, sizes[letter], 0, 0);
            Check.due("30: as the last one", house.waitingAt(0, letter), letter);
            Check.due("30: none behind the last one", house.waitingAt(0, letter + 1), -1);
            Check.due("29: waiting", house.waiting(0), letter + 1);
        }
        // 0 is broken off, 1 goes through, 2 and 3 are broken off in a row, and 3 is the last one then
        Check.due("7: three do not wait there any more", house.wake(0), 3);
        Check.due("21: it is set aside again", house.isAside(0), true);
        int[] line = {4, 5, 3};
        for (int place = 0; place < 3; place++) {
            Check.due("30: the line", house.waitingAt(0, place), line[place]);
        }
        Check.due("30: no more", house.waitingAt(0, 3), -1);
        Check.due("24: three went on to the next rule", house.memory(1, false), 3);
        house.setAside(1);
        Check.due("6: all go on", Check.mend(house, 0, "n;"), 3);
        for (int place = 0; place < 3; place++) {
            Check.due("30: in the order of the line", house.waitingAt(1, place), line[place]);
        }
        house.setBudget(0, 1);
        Check.due("7: the first one is broken off, and waits on", house.wake(1), 0);
        Check.due("30: as the last one", house.waitingAt(1, 2), 4);
        Check.due("30: the second one is the first", house.waitingAt(1, 0), 5);
        Check.due("37: a run more", house.way(4), 2);
        SievePost one = new SievePost();
        one.setBudget(5, 1);
        Check.rule(one, NO_END);
        one.arrive(0, 1, 0, 0);
        Check.due("7: the only one is broken off again", one.wake(0), 0);
        Check.due("29: it waits", one.waiting(0), 1);
        Check.due("37: two runs", one.way(0), 2);
        Check.due("7: none waited at it ahead", wokenEmpty(), 0);
    }

    private static int wokenEmpty() {
        SievePost house = new SievePost();
        Check.rule(house, "n;");
        house.setAside(0);
        return house.wake(0);
    }

    private static void sixtyLetters() {
        SievePost house = new SievePost();
        Check.rule(house, "A=A+1;");
        for (int letter = 0; letter < 60; letter++) {
            int no = letter;
            Check.due("31: letters", house.letters(), letter);
            Check.outside("32: no such letter yet", () -> house.state(no));
            Check.due("10: its number", house.arrive(letter % 16, 1, letter % 3 == 0 ? 100 : 0, 0), letter);
        }
        Check.untimely("10: there are 60", () -> house.arrive(0, 1, 0, 0));
        Check.bad("10: size 0, and there are 60", () -> house.arrive(0, 0, 0, 0));
        Check.outside("10: no sender, and there are 60", () -> house.arrive(16, 1, 0, 0));
        house.discard(0);
        house.take(1);
        Check.untimely("10: there are 60, discarded and taken ones too", () -> house.arrive(0, 1, 0, 0));
        Check.due("31: 60 letters", house.letters(), 60);
        Check.due("24: 40 went by the rule", house.memory(0, false), 40);
        Check.outside("32: no letter 60", () -> house.state(60));
        Check.due("32: the letter 59", house.state(59), 0);
        SievePost aside = new SievePost();
        Check.rule(aside, "f1;");
        aside.setAside(0);
        for (int letter = 0; letter < 60; letter++) {
            aside.arrive(0, 1, 0, 0);
        }
        Check.due("29: 60 wait", aside.waiting(0), 60);
        Check.due("30: the last one", aside.waitingAt(0, 59), 59);
        Check.due("30: none behind it", aside.waitingAt(0, 60), -1);
        Check.due("7: 60 go on", aside.wake(0), 60);
        Check.due("44: 60 are filed", aside.load(1), 60);
    }

    private static void doubtAndTrust() {
        int[][] rows = {{80, 80, 0}, {80, 81, 1}, {80, 79, 0}, {0, 0, 0}, {0, 1, 1}, {100, 100, 0}, {99, 100, 1}, {0, 100, 1}, {1, 1, 0}};
        for (int[] row : rows) {
            SievePost house = new SievePost();
            Check.rule(house, "f1;");
            house.setTrust(9, row[0]);
            house.arrive(9, 1, row[1], 0);
            Check.due("10: doubt " + row[1] + " by trust " + row[0], house.state(0), row[2]);
            Check.due("37: at once, without a run", house.way(0), row[2] == 1 ? 0 : 1);
            Check.due("33: filed or not", house.folderOf(0), row[2] == 1 ? -1 : 1);
            Check.due("45: the trust stays by that", house.trust(9), row[0]);
        }
        SievePost first = new SievePost();
        for (int sender = 0; sender < 16; sender++) {
            Check.due("45: 80 at first", first.trust(sender), 80);
            first.arrive(sender, 1, 80, 0);
            first.arrive(sender, 1, 81, 0);
            Check.due("10: 80 is not above it", first.state(2 * sender), 0);
            Check.due("10: 81 is", first.state(2 * sender + 1), 1);
        }
    }

    private static void releasedAndDiscarded() {
        int[][] rows = {{0, 5, 0}, {1, 6, 0}, {19, 24, 0}, {20, 25, 0}, {21, 26, 1}, {94, 99, 74}, {95, 100, 75}, {96, 100, 76}, {99, 100, 79}};
        for (int[] row : rows) {
            SievePost house = new SievePost();
            house.arrive(2, 1, 100, 0);
            house.arrive(2, 1, 100, 0);
            house.setTrust(2, row[0]);
            Check.due("11: released, its state", house.release(0), 0);
            Check.due("45: 5 more, up to 100", house.trust(2), row[1]);
            house.setTrust(2, row[0]);
            Check.due("12: 20 less, down to 0", house.discard(1), row[2]);
            Check.due("45: 20 less, down to 0", house.trust(2), row[2]);
            Check.due("45: of others it stays", house.trust(3), 80);
        }
        SievePost full = new SievePost();
        Check.rule(full, "q;");
        full.setTrust(2, 100);
        full.arrive(2, 1, 100, 0);
        Check.due("32: by q, in quarantine", full.state(0), 1);
        Check.due("11: filed", full.release(0), 0);
        Check.due("45: 100 stays", full.trust(2), 100);
        SievePost house = new SievePost();
        for (int rule = 0; rule < 8; rule++) {
            Check.rule(house, "q;");
        }
        house.arrive(0, 1, 100, 0);
        for (int rule = 0; rule < 8; rule++) {
            Check.due("37: runs so far", house.way(0), rule);
            Check.due("11: the quarantine of the next rule", house.release(0), 1);
            Check.due("38: that one ran", house.wayRule(0, rule), rule);
        }
        Check.due("11: behind the last rule it is filed", house.release(0), 0);
        Check.due("37: 8 runs", house.way(0), 8);
        Check.untimely("11: it is filed", () -> house.release(0));
        Check.untimely("12: it is filed", () -> house.discard(0));
        house.take(0);
        Check.untimely("11: it is taken", () -> house.release(0));
        Check.untimely("12: it is taken", () -> house.discard(0));
        Check.untimely("13: it is taken", () -> house.take(0));
        house.arrive(0, 1, 100, 0);
        house.discard(1);
        Check.untimely("11: it is discarded", () -> house.release(1));
        Check.untimely("12: it is discarded", () -> house.discard(1));
        Check.untimely("13: it is discarded", () -> house.take(1));
        house.setAside(0);
        house.arrive(0, 1, 0, 0);
        Check.untimely("11: it waits", () -> house.release(2));
        Check.untimely("12: it waits", () -> house.discard(2));
        Check.untimely("13: it waits", () -> house.take(2));
        house.arrive(1, 1, 100, 0);
        Check.untimely("13: it is in quarantine", () -> house.take(3));
        Check.due("11: released to a rule that is set aside, it waits", house.release(3), 2);
    }

    private static void fullFolders() {
        for (int folder = 0; folder < 5; folder++) {
            SievePost house = new SievePost();
            Check.rule(house, "f" + folder + ";");
            house.arrive(0, 200, 0, 0);
            house.arrive(0, 200, 0, 0);
            house.arrive(0, 101, 0, 0);
            Check.due("44: 501 are above the first quota", house.load(folder), 400);
            Check.due("33: the next folder upward", house.folderOf(2), folder + 1);
            house.arrive(0, 100, 0, 0);
            Check.due("44: 500 are not", house.load(folder), 500);
            house.arrive(0, 1, 0, 0);
            Check.due("33: one over goes on upward", house.folderOf(4), folder + 1);
            Check.due("44: together with that which went there", house.load(folder + 1), 102);
            Check.due("13: taken", house.take(0), folder);
            Check.due("44: 200 less", house.load(folder), 300);
            house.arrive(0, 200, 0, 0);
            Check.due("33: there is place for as much", house.folderOf(5), folder);
            Check.due("34: it is meant for the first all the same", house.meantFor(4), folder);
            Check.due("15: the quota before", house.setQuota(folder, 499), 500);
            Check.due("15: what is filed stays", house.load(folder), 500);
            Check.due("15: the quota before", house.setQuota(folder, 0), 499);
            house.setQuota(folder, 500);
            house.take(5);
            house.setQuota(folder, 300);
            house.arrive(0, 1, 0, 0);
            Check.due("33: full to the quota of now", house.folderOf(6), folder + 1);
            house.setQuota(folder, 301);
            house.arrive(0, 1, 0, 0);
            Check.due("33: one below it", house.folderOf(7), folder);
        }
        SievePost zero = new SievePost();
        for (int folder = 0; folder < 5; folder++) {
            zero.setQuota(folder, 0);
        }
        Check.rule(zero, "fk;");
        for (int kind = 0; kind < 6; kind++) {
            zero.arrive(0, 1, 0, kind);
            Check.due("33: a quota of 0 takes none", zero.folderOf(kind), 5);
        }
        zero.setQuota(4, 1);
        zero.setQuota(2, 2);
        zero.arrive(0, 1, 0, 3);
        Check.due("33: upward, not downward", zero.folderOf(6), 4);
        zero.arrive(0, 2, 0, 0);
        Check.due("33: over full ones", zero.folderOf(7), 2);
        SievePost most = new SievePost();
        most.setQuota(0, 2000);
        for (int letter = 0; letter < 60; letter++) {
            most.arrive(0, 200, 0, 0);
            Check.due("33: 2000 and no more", most.folderOf(letter), letter < 10 ? 0 : letter < 12 ? 1 : letter < 14 ? 2
                : letter < 16 ? 3 : letter < 18 ? 4 : 5);
        }
        Check.due("44: 2000", most.load(0), 2000);
        Check.due("44: the folder 5 takes all", most.load(5), 42 * 200);
        Check.untimely("10: and then there are 60", () -> most.arrive(0, 1, 0, 0));
    }

    private static void hours() {
        SievePost house = new SievePost();
        Check.due("17: 0 at first", house.hour(), 0);
        for (int count = 1; count < 100; count++) {
            Check.due("16: 100 hours", house.pass(100), 100 * count);
        }
        Check.due("16: 1 hour", house.pass(1), 9901);
        Check.untimely("16: 10001", () -> house.pass(100));
        Check.bad("16: 101 hours, and above 10000", () -> house.pass(101));
        Check.bad("16: 0 hours", () -> house.pass(0));
        Check.due("17: the hour stays", house.hour(), 9901);
        Check.due("16: 9999", house.pass(98), 9999);
        Check.untimely("16: 10001", () -> house.pass(2));
        Check.due("16: 10000", house.pass(1), 10000);
        Check.untimely("16: above 10000", () -> house.pass(1));
        Check.due("17: 10000", house.hour(), 10000);
        Check.rule(house, "A=h;");
        house.arrive(0, 1, 0, 0);
        Check.due("the hour of the day is the remainder by 24", house.memory(0, false), 16);
        SievePost day = new SievePost();
        Check.rule(day, "A=h;");
        for (int hour = 0; hour < 50; hour++) {
            day.arrive(0, 1, 0, 0);
            Check.due("the hour of the day", day.memory(0, false), hour % 24);
            day.pass(1);
        }
        Check.due("the hour, anew, as it was then", ofHours(), 23);
    }

    private static int ofHours() {
        SievePost house = new SievePost();
        Check.rule(house, "@h{}");
        house.pass(23);
        house.arrive(0, 1, 0, 0);
        house.pass(1);
        return house.costAnew(0) - 2;
    }

    private static void runsOfAWay() {
        SievePost none = new SievePost();
        none.arrive(0, 1, 0, 0);
        Check.due("37: without rules there is no run", none.way(0), 0);
        Check.outside("38: run 0 of none", () -> none.wayRule(0, 0));
        Check.outside("39: run 0 of none", () -> none.wayEnd(0, 0));
        Check.outside("43: run 0 of none", () -> none.endAnew(0, 0));
        Check.due("32: filed", none.state(0), 0);
        Check.due("33: in the folder 0", none.folderOf(0), 0);
        SievePost house = new SievePost();
        house.setBudget(10, 1);
        Check.rule(house, NO_END);
        house.arrive(0, 1, 0, 0);
        int calls = 6;
        int runs = 1;
        for (; calls < 500; calls += 1) {
            house.wake(0);
            runs++;
        }
        Check.due("37: a way as long as 512 calls can make it", house.way(0), runs);
        Check.due("39: its last run", house.wayEnd(0, runs - 1), 4);
        Check.due("43: its last run", house.endAnew(0, runs - 1), 4);
        Check.due("42: no cost", house.costAnew(0), 0);
        Check.outside("39: no run behind it", () -> house.wayEnd(0, 495));
        Check.due("26: so many runs", house.runs(0, true), runs);
        Check.due("27: so many steps", house.steps(0), 10 * runs);
    }

    private static void waysAnewAtTheEdges() {
        SievePost house = new SievePost();
        house.setBudget(40, 5);
        Check.rule(house, "A=A+1;B=B+A;fA%7;g(B-1)%5;?A=3{n;}?A=4{x;}?A=5{q;}?A=6{@99{}}");
        for (int letter = 0; letter < 6; letter++) {
            house.arrive(letter, 1 + letter, letter, letter);
        }
        int[] ends = {0, 0, 1, 2, 3, 4};
        int[] meant = {1, 2, 3, 4, 5, 0};
        int[] flags = {1, 4, 1, 0, 0, 0};
        for (int letter = 0; letter < 6; letter++) {
            Check.due("39: end of " + letter, house.wayEnd(letter, 0), ends[letter]);
            Check.due("43: end of " + letter, house.endAnew(letter, 0), ends[letter]);
            Check.due("34: meant for of " + letter, house.meantFor(letter), meant[letter]);
            Check.due("40: meant anew of " + letter, house.meantAnew(letter), meant[letter]);
            Check.due("35: flags of " + letter, house.flags(letter), flags[letter]);
            Check.due("41: flags anew of " + letter, house.flagsAnew(letter), flags[letter]);
            Check.due("42: cost anew of " + letter, house.costAnew(letter), house.cost(letter));
        }
        Check.due("24: A", house.memory(0, false), 5);
        Check.due("24: B", house.memory(0, true), 15);
    }
}
