import java.util.Random;

/** Promise 4 by many drafts, against the grammar told once more. */
public final class FaultTest {
    private FaultTest() {
    }

    public static void main(String[] args) {
        RandomPrograms programs = new RandomPrograms(new Random(45));
        SievePost house = new SievePost();
        for (int count = 0; count < 2500; count++) {
            same(house, programs.program(160));
            same(house, programs.draft(160));
            same(house, programs.draft(40));
            same(house, programs.signs(160));
            same(house, programs.deep(160));
        }
        same(house, "a=" + "-".repeat(158));
        same(house, "a=" + "!".repeat(156) + "1;");
        same(house, "f((((((((" + "!-".repeat(71) + "1))))))));".substring(0, 9));
        same(house, "?1{}".repeat(40));
        same(house, "n;".repeat(80));
        same(house, "a=" + "1&".repeat(78) + "1;");
        same(house, "?1{?1{?1{?1{?1{?1{?1{?1{" + "n;".repeat(64) + "}}}}}}}}");
        Check.end();
    }

    private static void same(SievePost house, String draft) {
        Check.due("fault of " + draft, Check.faultOf(house, draft), Grammar.faultOf(draft));
    }
}
