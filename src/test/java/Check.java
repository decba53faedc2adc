import java.util.Set;
import java.util.TreeSet;
import java.util.concurrent.Callable;

/** Counts the answers that are not as due, and ends the test by them. */
final class Check {
    private static int wrong = 0;
    private static int asked = 0;
    private static final Set<Integer> NUMBERS = new TreeSet<>();

    private Check() {
    }

    static void due(String what, Object got, Object want) {
        asked++;
        String number = what.replaceFirst(":.*", "");
        if (number.matches("[0-9]+")) {
            NUMBERS.add(Integer.valueOf(number));
        }
        if (!got.equals(want)) {
            wrong++;
            System.out.println(what + " answered " + got + ", due is " + want);
        }
    }

    /** Each promise up to this one must have been told by its number, in front of what was asked. */
    static void eachPromise(int last) {
        for (int number = 1; number <= last; number++) {
            due("promise " + number + " is asked", NUMBERS.contains(number), true);
        }
    }

    /** What a call answers, or the name of the exception that it throws. */
    static Object answer(Callable<Object> call) {
        try {
            return call.call();
        } catch (Exception thrown) {
            return told(thrown);
        }
    }

    /** The name of an exception; one that the program does not throw by a statement of its own is told as such. */
    static String told(Throwable thrown) {
        StackTraceElement[] places = thrown.getStackTrace();
        boolean isOwn = places.length > 0 && !places[0].getClassName().startsWith("java.")
            && !places[0].getClassName().startsWith("jdk.");
        return thrown.getClass().getSimpleName() + (isOwn ? "" : " thrown by the library");
    }

    static void outside(String what, Callable<Object> call) {
        due(what, answer(call), "IndexOutOfBoundsException");
    }

    static void bad(String what, Callable<Object> call) {
        due(what, answer(call), "IllegalArgumentException");
    }

    static void untimely(String what, Callable<Object> call) {
        due(what, answer(call), "IllegalStateException");
    }

    static void typeAll(SievePost house, String text) {
        for (int from = 0; from < text.length(); from += 4) {
            house.type(signAt(text, from), signAt(text, from + 1), signAt(text, from + 2), signAt(text, from + 3));
        }
    }

    private static char signAt(String text, int place) {
        return place < text.length() ? text.charAt(place) : ' ';
    }

    static int faultOf(String text) {
        SievePost house = new SievePost();
        typeAll(house, text);
        return house.fault();
    }

    /** Makes a rule by a text, for all kinds. */
    static int rule(SievePost house, String text) {
        return rule(house, text, 1023);
    }

    static int rule(SievePost house, String text, int scope) {
        house.wipe();
        typeAll(house, text);
        return house.addRule(scope);
    }

    static int mend(SievePost house, int rule, String text) {
        house.wipe();
        typeAll(house, text);
        return house.mend(rule);
    }

    static void end() {
        System.out.println(asked + " answers, " + wrong + " not as due");
        if (wrong != 0) {
            System.exit(1);
        }
    }
}
