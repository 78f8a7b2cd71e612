import java.util.Random;

/** Any arguments in any state: nothing but the document's exception comes out, and what only asks changes nothing. */
public final class WildTest {
    private static final Check check = new Check("WildTest");

    public static void main(String[] args) {
        for (int seed = 0; seed < 400; seed++) {
            check.due("the same calls answer the same, seed " + seed, run(seed), run(seed));
        }
        for (int seed = 0; seed < 60; seed++) {
            againWithoutQuestions(seed);
        }
        check.end();
    }

    private static long run(int seed) {
        Random random = new Random(seed);
        PriceUpon x = new PriceUpon();
        long all = 0;
        for (int call = 0; call < 300; call++) {
            all = all * 31 + (random.nextInt(3) == 0 ? Calls.change(x, random) : Calls.question(x, random));
        }
        return all;
    }

    /** Each question is put once more to an object that saw the changes alone: whatever was asked before must not show. */
    private static void againWithoutQuestions(int seed) {
        Random random = new Random(seed);
        int[] changes = new int[60];
        int made = 0;
        PriceUpon x = new PriceUpon();
        for (int call = 0; call < 240; call++) {
            int some = random.nextInt();
            if (call % 4 == 0) {
                Calls.change(x, new Random(some));
                changes[made] = some;
                made++;
                continue;
            }
            PriceUpon fresh = new PriceUpon();
            for (int k = 0; k < made; k++) {
                Calls.change(fresh, new Random(changes[k]));
            }
            check.due("seed " + seed + ", call " + call, Calls.question(x, new Random(some)), Calls.question(fresh, new Random(some)));
        }
    }
}
