import java.util.Random;

/**
 * No call throws by itself or fails to end, for any arguments in any state: also far behind the 512th call, where the
 * answers are free, nothing is thrown but what the document names.
 */
public final class EndlessTest {
    private static final int CALLS = 40_000;
    private static final int[] ENDS = {Integer.MIN_VALUE, -1, 0, 1, 2, 3, 15, 16, 99, 100, Integer.MAX_VALUE};

    public static void main(String[] args) {
        for (int run = 0; run < 6; run++) {
            Random random = new Random(run);
            ForgivenWork x = new ForgivenWork();
            for (int k = 0; k < CALLS; k++) {
                call(x, random, run);
            }
        }
        for (int regrets = 1; regrets <= 3000; regrets += 333) {
            withRegrets(regrets);
        }
        System.out.println("EndlessTest: nothing was thrown but what the document names");
    }

    /** One work takes so many regrets, and when they are done, the log of the work around it so many entries. */
    private static void withRegrets(int regrets) {
        ForgivenWork x = new ForgivenWork();
        x.begin(1);
        x.point(1);
        x.begin(1);
        for (int k = 0; k < regrets; k++) {
            x.begin(1);
            x.regret(1, k % 16, 1 + k % 99);
            x.done(1);
        }
        x.point(1);
        x.save(0);
        x.begin(1);
        x.regret(1, 3, 33);
        x.fail(1);
        x.back(1, 0);
        for (int k = 0; k < 20; k++) {
            x.fail(1);
            x.undo();
        }
        x.fail(1);
        x.back(1, 0);
        x.restore(0);
        Random random = new Random(regrets);
        for (int k = 0; k < 3000; k++) {
            call(x, random, k % 6);
        }
    }

    private static int number(Random random, int most) {
        return random.nextInt(25) == 0 ? ENDS[random.nextInt(ENDS.length)] : random.nextInt(most + 1);
    }

    private static void call(ForgivenWork x, Random random, int run) {
        int w = number(random, run % 2 == 0 ? 0 : 2);
        int c = number(random, 15);
        int n = number(random, 99);
        int kind = random.nextInt(run < 3 ? 40 : 22);
        try {
            called(x, random, kind, w, c, n);
        } catch (RuntimeException e) {
            Class<?> thrown = e.getClass();
            if (thrown != IndexOutOfBoundsException.class && thrown != IllegalArgumentException.class
                && thrown != IllegalStateException.class) {
                throw e;
            }
        }
    }

    private static int called(ForgivenWork x, Random random, int kind, int w, int c, int n) {
        return switch (kind) {
            case 0 -> x.begin(w);
            case 1, 2 -> x.write(w, c, n);
            case 3 -> x.point(w);
            case 4 -> x.back(w, number(random, 3));
            case 5 -> x.done(w);
            case 6 -> random.nextInt(9) == 0 ? x.fail(w) : x.begin(w);
            case 7 -> x.failed(w, c, number(random, 5));
            case 8 -> x.lost(w, number(random, 3)) + x.changes(w);
            case 9 -> x.runScript(number(random, 3), random.nextLong() >> random.nextInt(64));
            case 10 -> x.simulate(random.nextLong(), n);
            case 11 -> random.nextInt(9) == 0 ? x.restore(number(random, 1)) : x.save(number(random, 1));
            case 12 -> random.nextInt(9) == 0 ? x.undo() : x.setMercy(3);
            case 13 -> x.append(number(random, 255));
            case 14 -> random.nextInt(99) == 0 ? x.load() : x.errorPosition();
            case 15 -> random.nextInt(9) == 0 ? x.clearText() : x.append('W');
            case 16 -> x.about(number(random, 9)) + x.worker(w, number(random, 5));
            case 17 -> x.cell(c, number(random, 2)) + x.entry(w, n);
            case 18 -> x.work(w, number(random, 4), number(random, 4)) + x.mercyLeft(w) + x.whyNot(w, c);
            default -> random.nextInt(7) == 0 ? x.done(w) + x.begin(w) : x.regret(w, c, n);
        };
    }
}
