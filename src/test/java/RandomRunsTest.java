import java.util.ArrayList;
import java.util.List;
import java.util.Random;

/**
 * Runs of calls with right and wrong inputs, from fixed seeds. No call may let the machine throw, none that
 * throws or only asks may change anything, and what would be has to be what is once it is done.
 */
public final class RandomRunsTest {
    private static final int RUNS = 600;
    private static final int CALLS = 120;
    private static final int FIRST_ASKING = 17;
    private static final int KINDS = 29;

    private final Random random;
    private final List<int[]> done = new ArrayList<>();
    private final PlotModel plot = new PlotModel();
    private Kelirnight night = new Kelirnight();

    private RandomRunsTest(long seed) {
        random = new Random(seed);
    }

    public static void main(String[] args) {
        for (int run = 0; run < RUNS; run++) {
            Check.begin("random run " + run);
            new RandomRunsTest(run).run();
        }
        Check.end();
    }

    private void run() {
        for (int k = 0; k < CALLS; k++) {
            step(k);
        }
        // A night has 512 calls, so each comparison goes on with a new one that was brought to the same state.
        night = again();
        plot.compare(night);
        night = again();
        Check.same("digest", night.digest(), Digest.of(night));
        night = again();
        compareGripable();
        compareLiftFor();
        compareNextGong();
        night = again();
        compareBestSwap();
        compareShadows();
    }

    private void step(int k) {
        int[] call = k < 24 ? told() : any();
        long before = night.digest();
        long[] answer = new long[1];
        RuntimeException thrown = Check.thrownBy(() -> answer[0] = perform(night, call));
        String name = java.util.Arrays.toString(call);
        if (thrown != null && !isDeclared(thrown)) {
            Check.report(name + " throws " + thrown);
        }
        if (thrown != null || call[0] >= FIRST_ASKING) {
            Check.same("digest behind " + name, night.digest(), before);
        } else {
            done.add(call);
            plot.note(call, answer[0]);
        }
    }

    private static boolean isDeclared(RuntimeException thrown) {
        Class<?> type = thrown.getClass();
        boolean known = type == IllegalArgumentException.class || type == IllegalStateException.class
                || type == IndexOutOfBoundsException.class;
        return known && Check.isOwnThrow(thrown);
    }

    private int[] told() {
        int kind = random.nextInt(3);
        if (kind == 0) {
            int born = random.nextInt(40);
            return new int[] {0, random.nextInt(2), random.nextInt(4), random.nextInt(10), born,
                born + 1 + random.nextInt(60), random.nextInt(2)};
        }
        if (kind == 1) {
            return new int[] {1, random.nextInt(8), 10 + random.nextInt(81), 0, 0, 0, 0};
        }
        int persons = Math.max(1, night.many(1));
        int cast = 1 + random.nextInt((1 << persons) - 1);
        return new int[] {2, 20 + random.nextInt(40), random.nextInt(4), cast, 5 + random.nextInt(86),
            oneOf(cast), oneOf(cast)};
    }

    private int oneOf(int cast) {
        int one = random.nextInt(8);
        return (cast >> one & 1) == 1 ? one : -1;
    }

    private int[] any() {
        int[] call = new int[7];
        call[0] = random.nextInt(KINDS);
        for (int k = 1; k < call.length; k++) {
            call[k] = number();
        }
        return call;
    }

    private int number() {
        switch (random.nextInt(12)) {
            case 0: return random.nextInt();
            case 1: return random.nextInt(110) - 2;
            case 2: return random.nextBoolean() ? Integer.MAX_VALUE : Integer.MIN_VALUE;
            case 3: return 30 + random.nextInt(4);
            case 4:
            case 5: return random.nextInt(18) - 2;
            default: return random.nextInt(6);
        }
    }

    private static long perform(Kelirnight night, int[] c) {
        switch (c[0]) {
            case 0: return night.person(c[1], c[2], c[3], c[4], c[5], (c[6] & 1) == 1);
            case 1: return night.figure(c[1], c[2]);
            case 2: return night.scene(c[1], c[2], c[3], c[4], c[5], c[6]);
            case 3: return night.length(c[1], c[2]);
            case 4: return night.swap(c[1], c[2]);
            case 5: return night.lamp(c[1], c[2]);
            case 6: return night.grip(c[1]);
            case 7: return night.move(c[1], c[2]);
            case 8: return night.lift(c[1], c[2]);
            case 9: return night.plant(c[1]);
            case 10: return night.hand(c[1]);
            case 11: return night.away(c[1]);
            case 12: return night.tap(c[1]) ? 1 : 0;
            case 13: return night.speak(c[1], c[2], c[3], c[4]);
            case 14: return night.joke(c[1]);
            case 15: return night.offer();
            case 16: return night.pass(c[1]);
            default: return ask(night, c);
        }
    }

    private static long ask(Kelirnight night, int[] c) {
        switch (c[0]) {
            case 17: return night.knows(c[1], c[2]) ? 1 : 0;
            case 18: return night.ofFigure(c[1], c[2]);
            case 19: return night.ofScene(c[1], c[2]);
            case 20: return night.at(c[1]);
            case 21: return night.sound(c[1]);
            case 22: return night.many(c[1]);
            case 23: return (long) night.meanShadow();
            case 24: return night.nextGong();
            case 25: return night.bestSwap();
            case 26: return night.liftFor(c[1], c[2]);
            case 27: return night.gripable();
            default: return night.digest();
        }
    }

    private Kelirnight again() {
        Kelirnight other = new Kelirnight();
        for (int[] call : done) {
            perform(other, call);
        }
        return other;
    }

    private void compareGripable() {
        int due = 0;
        for (int k = 0; k < night.many(2); k++) {
            Kelirnight other = again();
            int figure = k;
            if (Check.thrownBy(() -> other.grip(figure)) == null) {
                due |= 1 << k;
            }
        }
        Check.same("gripable", night.gripable(), due);
    }

    private void compareLiftFor() {
        for (int k = 0; k < night.many(2); k++) {
            if (night.ofFigure(k, 3) < 2) {
                continue;
            }
            Kelirnight other = again();
            int shadow = 1 + random.nextInt(200);
            int due = -1;
            for (int lifted = 15; lifted >= 0; lifted--) {
                if (other.lift(k, lifted) >= shadow) {
                    due = lifted;
                }
            }
            Check.same("liftFor(" + k + ", " + shadow + ")", night.liftFor(k, shadow), due);
        }
    }

    private void compareNextGong() {
        int due = night.nextGong();
        if (due == -1) {
            Check.same("mood", night.sound(0), -1);
        } else if (night.many(0) + due <= 540) {
            Kelirnight other = again();
            for (int k = 1; k < due; k++) {
                Check.same("gongs ahead of the next", other.pass(1), 0);
            }
            Check.truth("the next gong", other.pass(1) > 0, true);
        }
    }

    private void compareBestSwap() {
        if (night.many(0) > 0) {
            return;
        }
        int fewest = night.many(5);
        int due = -1;
        Kelirnight other = again();
        for (int one = 0; one < night.many(3); one++) {
            for (int two = one + 1; two < night.many(3); two++) {
                int breached = other.swap(one, two);
                if (breached < fewest) {
                    fewest = breached;
                    due = 10 * one + two;
                }
                other.swap(two, one);
            }
        }
        Check.same("bestSwap", night.bestSwap(), due);
    }

    private void compareShadows() {
        int sum = 0;
        int count = 0;
        for (int k = 0; k < night.many(2); k++) {
            boolean shown = night.ofFigure(k, 3) > 0;
            Check.truth("place of " + k, night.ofFigure(k, 4) >= 0, shown);
            if (shown) {
                Check.same("at its place", night.at(night.ofFigure(k, 4)), k);
                sum += night.ofFigure(k, 6);
                count++;
            }
        }
        Check.sameReal("meanShadow", night.meanShadow(), count == 0 ? 0 : (double) sum / count);
    }
}
