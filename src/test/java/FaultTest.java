import java.util.Random;

/** Promise 4 by many drafts, against the grammar told once more. */
public final class FaultTest {
    private static final String SIGNS = "0123456789abcdfghknqsuxzAB?:@{}();=<>+-*/%!&|";

    private FaultTest() {
    }

    public static void main(String[] args) {
        RandomPrograms programs = new RandomPrograms(new Random(45));
        for (int count = 0; count < 2500; count++) {
            same(programs.program(160));
            same(programs.draft(160));
            same(programs.draft(40));
            same(programs.signs(160));
            same(programs.deep(160));
        }
        same("a=" + "-".repeat(158));
        same("a=" + "!".repeat(156) + "1;");
        same("f((((((((" + "!-".repeat(71) + "1))))))));".substring(0, 9));
        same("?1{}".repeat(40));
        same("n;".repeat(80));
        same("a=" + "1&".repeat(78) + "1;");
        same("?1{?1{?1{?1{?1{?1{?1{?1{" + "n;".repeat(64) + "}}}}}}}}");
        eachSignWhereMuchIsOpen();
        Check.end();
    }

    private static void eachSignWhereMuchIsOpen() {
        String[] heads = {"", "?", "?1", "?1{}", "?1{}:", "?1{}:{}", "@", "@1", "@1{}", "a", "a=", "a=1", "a=1=1", "f", "f-1", "n", "n;"};
        for (int open = 6; open <= 8; open++) {
            for (String head : heads) {
                for (char sign : SIGNS.toCharArray()) {
                    same("?1{".repeat(open) + head + sign);
                    same("?1{".repeat(open) + head + sign + "}".repeat(open));
                }
            }
            for (String head : new String[] {"", "-", "1", "1+", "1=1", "1|", "1)", "1)+", "1){", "1))"}) {
                for (char sign : SIGNS.toCharArray()) {
                    same("?" + "(".repeat(open) + head + sign);
                    same("?1{?1{f" + "(".repeat(open - 2) + head + sign);
                }
            }
        }
    }

    private static void same(String draft) {
        Check.due("fault of " + draft, Check.faultOf(draft), Grammar.faultOf(draft));
    }
}
