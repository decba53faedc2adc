import java.lang.reflect.InvocationTargetException;
import java.lang.reflect.Method;
import java.util.ArrayList;
import java.util.Arrays;
import java.util.Collections;
import java.util.List;
import java.util.Random;

/** Long rows of calls by chance, each answer against the one of the model. */
public final class ModelTest {
    private static final int HOUSES = 600;
    private static final int MOST_CALLS = 512;
    private static final String[] OF_NONE = {"fault", "hour", "length", "rules", "programs", "letters"};
    private static final String[] OF_RULE = {"isAside", "versions", "strikes", "steps", "most", "waiting"};
    private static final String[] OF_LETTER = {"state", "folderOf", "meantFor", "flags", "cost", "way", "meantAnew", "flagsAnew",
        "costAnew"};

    private final Random random;
    private final RandomPrograms programs;
    private final SievePost house = new SievePost();
    private final HouseModel model = new HouseModel();
    private final List<String> texts = new ArrayList<>();
    private final StringBuilder story = new StringBuilder();
    private final List<Object[]> questions = new ArrayList<>();
    private int calls = 0;

    private ModelTest(int seed) {
        random = new Random(seed);
        programs = new RandomPrograms(random);
        for (int count = 0; count < 6; count++) {
            texts.add(programs.program(random.nextInt(4) == 0 ? 160 : 60));
        }
        texts.add("@z{}A=A+1;");
        texts.add("?k>6{q;}f(A+s)%6;A=A+1;gk;");
    }

    public static void main(String[] args) throws Exception {
        for (int seed = 0; seed < HOUSES; seed++) {
            ModelTest one = new ModelTest(seed);
            one.live();
            one.compareAll();
            if (one.story.indexOf("!!") >= 0) {
                System.out.println("seed " + seed + ":\n" + one.story);
                break;
            }
        }
        Check.end();
    }

    private void live() throws Exception {
        for (int count = 0; count < 1 + random.nextInt(4); count++) {
            write();
            call("addRule", random.nextInt(3) == 0 ? 1 + random.nextInt(1023) : 1023);
        }
        int last = MOST_CALLS - random.nextInt(400);
        while (calls < last) {
            change();
            for (int count = random.nextInt(4); count > 0; count--) {
                look();
            }
        }
    }

    private void change() throws Exception {
        int how = random.nextInt(40);
        if (how < 16) {
            call("arrive", edge(16), 1 + edge(60) * (random.nextInt(5) == 0 ? 3 : 1), edge(101) % 95, edge(10));
        } else if (how < 19) {
            call("wake", rule());
        } else if (how < 20) {
            call("setAside", rule());
        } else if (how < 24) {
            call("setBudget", edge(random.nextInt(6) == 0 ? 2001 : 120), 1 + edge(random.nextInt(3) == 0 ? 5 : 2));
        } else if (how < 27) {
            call("release", letter());
        } else if (how < 28) {
            call("discard", letter());
        } else if (how < 29) {
            call("take", letter());
        } else if (how < 30) {
            call("setTrust", edge(16), edge(101));
        } else if (how < 32) {
            call("setQuota", edge(5), edge(random.nextInt(3) == 0 ? 2001 : 200));
        } else if (how < 34) {
            call("pass", 1 + edge(100));
        } else if (how < 36) {
            write();
            call("mend", rule());
        } else if (how < 37) {
            write();
            call("addRule", random.nextInt(6) == 0 ? edge(1025) : 1023);
        } else {
            look();
        }
    }

    private void write() throws Exception {
        if (random.nextInt(8) != 0) {
            call("wipe");
        }
        String text = random.nextInt(4) == 0 ? programs.program(60) : texts.get(random.nextInt(texts.size()));
        if (random.nextInt(12) == 0) {
            text = programs.draft(80);
        }
        for (int from = 0; from < text.length(); from += 4) {
            String piece = (text.substring(from, Math.min(text.length(), from + 4)) + "   ").substring(0, 4);
            call("type", piece.charAt(0), piece.charAt(1), piece.charAt(2), piece.charAt(3));
        }
    }

    private void look() throws Exception {
        switch (random.nextInt(12)) {
            case 0: call(OF_NONE[random.nextInt(OF_NONE.length)]); break;
            case 1:
            case 2: call(OF_RULE[random.nextInt(OF_RULE.length)], rule()); break;
            case 3: call("programOf", rule(), edge(3)); break;
            case 4: call("memory", rule(), random.nextBoolean()); break;
            case 5: call("runs", rule(), random.nextBoolean()); break;
            case 6: call("waitingAt", rule(), edge(5)); break;
            case 7: call(new String[] {"wayRule", "wayEnd", "endAnew"}[random.nextInt(3)], letter(), edge(6)); break;
            case 8: call(random.nextBoolean() ? "load" : "trust", edge(random.nextBoolean() ? 6 : 16)); break;
            default: call(OF_LETTER[random.nextInt(OF_LETTER.length)], letter()); break;
        }
    }

    /** A number from 0 on below a bound, or now and then one beside that. */
    private int edge(int bound) {
        int how = random.nextInt(50);
        return how == 0 ? -1 : how == 1 ? bound : random.nextInt(bound);
    }

    private int rule() {
        return edge(Math.max(1, model.rules()));
    }

    private int letter() {
        return edge(Math.max(1, model.letters()));
    }

    /** Asks as much of all that there is to ask as the calls that are left allow, in an order by chance. */
    private void compareAll() throws Exception {
        collectQuestions();
        Collections.shuffle(questions, random);
        for (Object[] question : questions) {
            call((String) question[0], Arrays.copyOfRange(question, 1, question.length));
        }
    }

    private void ask(Object... question) {
        questions.add(question);
    }

    private void collectQuestions() {
        for (String name : OF_NONE) {
            ask(name);
        }
        for (int rule = 0; rule < model.rules(); rule++) {
            for (String name : OF_RULE) {
                ask(name, rule);
            }
            for (int place = 0; place <= model.waiting(rule); place++) {
                ask("waitingAt", rule, place);
            }
            for (int version = 0; version <= model.versions(rule); version++) {
                ask("programOf", rule, version);
            }
            for (boolean is : new boolean[] {false, true}) {
                ask("memory", rule, is);
                ask("runs", rule, is);
            }
        }
        for (int letter = 0; letter < model.letters(); letter++) {
            for (String name : OF_LETTER) {
                ask(name, letter);
            }
            for (int run = 0; run <= model.way(letter); run++) {
                ask("wayRule", letter, run);
                ask("wayEnd", letter, run);
                ask("endAnew", letter, run);
            }
        }
        for (int number = 0; number < 16; number++) {
            ask("trust", number);
            ask("load", number);
        }
    }

    private void call(String name, Object... values) throws Exception {
        if (calls >= MOST_CALLS) {
            return;
        }
        calls++;
        Object got = answer(house, name, values);
        Object due = answer(model, name, values);
        String told = name + Arrays.toString(values) + " " + got;
        story.append(told).append(got.equals(due) ? "" : " !! " + due).append('\n');
        Check.due(told, got, due);
    }

    private static Object answer(Object asked, String name, Object... values) throws Exception {
        for (Method method : asked.getClass().getDeclaredMethods()) {
            boolean isOfFace = java.lang.reflect.Modifier.isPublic(method.getModifiers());
            if (isOfFace && method.getName().equals(name) && method.getParameterCount() == values.length) {
                try {
                    method.setAccessible(true);
                    return method.invoke(asked, values);
                } catch (InvocationTargetException thrown) {
                    return Check.told(thrown.getCause());
                }
            }
        }
        throw new IllegalStateException("no method " + name);
    }
}
