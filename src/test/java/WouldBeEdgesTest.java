import java.math.BigInteger;
import java.util.function.Supplier;

/** Promises 26 to 30, what would be: the edges that each of their sentences names. */
public final class WouldBeEdgesTest {
    private static final Class<IllegalArgumentException> ARGUMENT = IllegalArgumentException.class;

    private static final int BREACHES = 5;
    private static final int GONGS = 14;

    public static void main(String[] args) {
        nextGongIfSilent();
        nextGongAtEachBeat();
        nextGongIsOneAtLeast();
        nextGongIsTheNext();
        nextGongBehind540();
        bestSwapOfTooFewScenes();
        bestSwapIfNoneMakesThemFewer();
        bestSwapOfTheNumbers();
        bestSwapWithTheFewest();
        bestSwapOfSeveral();
        bestSwapWhateverTheMinuteIs();
        bestSwapChangesNothing();
        liftForAtLeast();
        liftForIfItCanNotBe();
        liftForWhereverItIs();
        liftForNoFigure();
        liftForArguments();
        gripableIsWhatCanBeGripped();
        gripableIsTheSet();
        digestOfAnEmptyNight();
        digestOfAFullNight();
        digestWrapsAround();
        digestTellsWhoKnows();
        Check.end();
    }

    private static Kelirnight playingAt(int mood, int speed) {
        Kelirnight night = Nights.playing(mood);
        while (night.sound(1) < speed) {
            night.tap(1);
            for (int k = 0; k < 4 && night.sound(3) != 0; k++) {
                night.pass(1);
            }
        }
        return night;
    }

    private static void nextGongIfSilent() {
        Check.begin("promise 26: 'NONE, if it is SILENT'");
        Check.same("at first", new Kelirnight().nextGong(), -1);
        Check.same("in a scene", Nights.row(90).nextGong(), -1);
        Kelirnight night = Nights.playing(0);
        night.tap(3);
        Check.same("while the stop waits", night.nextGong(), 1);
        night.pass(1);
        Check.same("stopped", night.nextGong(), -1);
        night.tap(0);
        Check.same("begun anew", night.nextGong(), 1);
    }

    private static void nextGongAtEachBeat() {
        Check.begin("promise 26: 'how many minutes have to go by until there is a GONG'");
        int[][] due = {{0, 1, 1, 1, 1, 1, 1}, {0, 2, 1, 2, 1, 2, 1}, {0, 2, 1, 1, 2, 1, 1}, {0, 4, 3, 2, 1, 4, 3}};
        for (int mood = 0; mood <= 3; mood++) {
            Kelirnight night = Nights.playing(mood);
            for (int minute = 1; minute <= 6; minute++) {
                Check.same("mood " + mood + " in " + (minute - 1), night.nextGong(), due[mood][minute]);
                night.pass(1);
            }
        }
        Check.same("32 beats, 16 a minute", playingAt(3, 2).nextGong(), 2);
        Check.same("32 beats, 24 a minute", playingAt(3, 3).nextGong(), 2);
        Kelirnight fast = playingAt(3, 3);
        fast.pass(1);
        Check.same("8 beats, 24 a minute", fast.nextGong(), 1);
        Check.same("16 beats, 16 a minute", playingAt(1, 2).nextGong(), 1);
    }

    private static void nextGongIsOneAtLeast() {
        Check.begin("promise 26: '(1 at least'");
        for (int mood = 0; mood <= 3; mood++) {
            for (int speed = 1; speed <= 3; speed++) {
                Kelirnight night = playingAt(mood, speed);
                for (int k = 0; k < 13; k++) {
                    Check.truth(mood + " at " + speed, night.nextGong() >= 1, true);
                    night.pass(1);
                }
            }
        }
    }

    private static void nextGongIsTheNext() {
        Check.begin("promise 26: 'until there is a GONG', and none ahead of it");
        for (int mood = 0; mood <= 3; mood++) {
            for (int speed = 1; speed <= 3; speed++) {
                for (int ahead = 0; ahead < 5; ahead++) {
                    Kelirnight night = playingAt(mood, speed);
                    for (int k = 0; k < ahead; k++) {
                        night.pass(1);
                    }
                    int due = night.nextGong();
                    int gongs = night.many(GONGS);
                    for (int k = 1; k < due; k++) {
                        Check.same("gongs ahead", night.pass(1), 0);
                    }
                    night.pass(1);
                    Check.truth("the gong", night.many(GONGS) > gongs, true);
                }
            }
        }
    }

    private static void nextGongBehind540() {
        Check.begin("promise 26: 'also behind 540)'");
        int[] due = {3, 2, 1, 4};
        for (int k = 0; k < due.length; k++) {
            Check.same("in " + (537 + k), Nights.passAll(Nights.playing(3), 537 + k).nextGong(), due[k]);
        }
        Check.same("in 540", Nights.passAll(Nights.playing(0), 540).nextGong(), 1);
    }

    private static void bestSwapOfTooFewScenes() {
        Check.begin("promise 27: 'of all exchanges of two SCENES', without two");
        Check.same("without scenes", new Kelirnight().bestSwap(), -1);
        Kelirnight one = Nights.crowd(3);
        one.scene(50, 3, 6, 20, 1, 1);
        Check.same("one scene", one.bestSwap(), -1);
        one.scene(50, 3, 1, 20, -1, -1);
        Check.same("two scenes, both have a breach anyway", one.bestSwap(), -1);
    }

    private static void bestSwapIfNoneMakesThemFewer() {
        Check.begin("promise 27: 'NONE, if none makes them fewer than they are'");
        Check.same("without a breach", Nights.row(5, 6, 7).bestSwap(), -1);
        Kelirnight alike = Nights.crowd(3);
        alike.scene(50, 0, 2, 20, -1, 1);
        alike.scene(50, 0, 4, 20, -1, 2);
        Check.same("two stay two", alike.bestSwap(), -1);
        alike.scene(50, 0, 6, 20, -1, -1);
        Check.same("two stay two of three", alike.bestSwap(), -1);
        Kelirnight other = Nights.crowd(3);
        other.scene(50, 0, 6, 90, -1, 1);
        other.scene(50, 0, 1, 90, -1, -1);
        other.scene(50, 2, 3, 90, -1, 0);
        Check.same("one for another", other.bestSwap(), -1);
        Check.same("it is one", other.many(BREACHES), 1);
    }

    private static void bestSwapOfTheNumbers() {
        Check.begin("promise 27: '10 times a SCENE, and another one with a greater number'");
        Kelirnight first = Nights.crowd(3);
        first.scene(50, 0, 6, 20, -1, 1);
        first.scene(50, 0, 3, 20, -1, 0);
        Check.same("0 and 1", first.bestSwap(), 1);
        Kelirnight far = Nights.crowd(1);
        far.scene(50, 3, 1, 40, -1, -1);
        for (int k = 1; k < 10; k++) {
            far.scene(50, 0, 1, 40, -1, -1);
        }
        Check.same("0 and 9", far.bestSwap(), 9);
        Kelirnight last = Nights.crowd(3);
        for (int k = 0; k < 8; k++) {
            last.scene(50, 0, 1, 45, -1, -1);
        }
        last.scene(50, 0, 6, 20, -1, 1);
        last.scene(50, 3, 3, 20, -1, 0);
        Check.same("8 and 9", last.bestSwap(), 89);
    }

    private static void bestSwapWithTheFewest() {
        Check.begin("promise 27: 'that with the fewest SCENES with a BREACH then'");
        Kelirnight night = Nights.crowd(3);
        night.scene(50, 0, 6, 20, -1, 1);
        night.scene(50, 0, 6, 20, -1, 2);
        night.scene(50, 0, 1, 20, -1, -1);
        night.scene(50, 0, 7, 20, -1, 0);
        Check.same("13 leaves one, 03 none", night.bestSwap(), 3);
        Kelirnight later = Nights.crowd(3);
        later.scene(50, 0, 1, 90, -1, -1);
        later.scene(50, 2, 6, 90, -1, -1);
        later.scene(50, 0, 3, 90, -1, 1);
        later.scene(50, 0, 3, 90, -1, 0);
        Check.same("two as it is", later.many(BREACHES), 2);
        Check.same("03 and 12 leave one, 13 none", later.bestSwap(), 13);
        Check.same("03 leaves one", later.swap(0, 3), 1);
        later.swap(0, 3);
        Check.same("13 leaves none", later.swap(1, 3), 0);
    }

    private static void bestSwapOfSeveral() {
        Check.begin("promise 27: 'of several the smallest number'");
        Kelirnight night = Nights.crowd(3);
        night.scene(50, 0, 1, 20, -1, -1);
        night.scene(50, 0, 1, 20, -1, -1);
        night.scene(50, 0, 6, 20, -1, 1);
        night.scene(50, 0, 3, 20, -1, 0);
        Check.same("03, 13 and 23", night.bestSwap(), 3);
        Check.same("03 leaves none", night.swap(0, 3), 0);
        Kelirnight other = Nights.crowd(3);
        other.scene(50, 0, 6, 20, -1, 1);
        for (int k = 1; k < 9; k++) {
            other.scene(50, 0, 3, 20, -1, 0);
        }
        Check.same("01 to 08", other.bestSwap(), 1);
    }

    private static Kelirnight disorder() {
        Kelirnight night = Nights.crowd(3);
        night.grip(night.figure(0, 40));
        night.scene(50, 0, 1, 20, -1, -1);
        night.scene(50, 0, 6, 20, -1, 1);
        night.scene(50, 0, 3, 30, -1, 0);
        night.scene(50, 3, 1, 40, 0, -1);
        return night;
    }

    private static void bestSwapWhateverTheMinuteIs() {
        Check.begin("promise 27: '(whatever the MINUTE is)'");
        for (int minute : new int[] {0, 1, 20, 40, 70, 110, 540}) {
            Check.same("in " + minute, Nights.passAll(disorder(), minute).bestSwap(), 2);
        }
    }

    private static void bestSwapChangesNothing() {
        Check.begin("promise 27: '(nothing is changed)'");
        Kelirnight night = disorder();
        night.pass(15);
        night.bestSwap();
        night.bestSwap();
        Kelirnight other = disorder();
        other.pass(15);
        Check.truth("it goes on as without", Probe.of(night).equals(Probe.of(other)), true);
    }

    private static void liftForAtLeast() {
        Check.begin("promise 28: 'by how much it would have to be LIFTED at least (0 to 15)'");
        for (int distance : new int[] {20, 21, 50, 79, 80}) {
            for (int height : new int[] {10, 11, 40, 89, 90}) {
                Kelirnight night = Nights.crowd(1);
                night.figure(0, height);
                night.lamp(distance, 0);
                for (int shadow = 1; shadow <= 400; shadow++) {
                    Check.same(height + " by " + distance + " for " + shadow, night.liftFor(0, shadow),
                            leastLift(height, distance, shadow));
                }
            }
        }
    }

    /** A shadow is that or more if it is so ahead of its rounding down, for the one asked for is whole. */
    private static int leastLift(int height, int distance, int shadow) {
        for (int lifted = 0; lifted <= 15; lifted++) {
            if (height * distance >= shadow * (distance - lifted)) {
                return lifted;
            }
        }
        return -1;
    }

    private static void liftForIfItCanNotBe() {
        Check.begin("promise 28: 'NONE, if it can not be'");
        Kelirnight night = Nights.crowd(1);
        night.figure(0, 90);
        night.figure(0, 40);
        Check.same("57, lifted by 15", night.liftFor(1, 57), 15);
        Check.same("58", night.liftFor(1, 58), -1);
        night.lamp(20, 0);
        Check.same("360, the greatest of all", night.liftFor(0, 360), 15);
        Check.same("361", night.liftFor(0, 361), -1);
        Check.same("400", night.liftFor(0, 400), -1);
        Check.same("300", night.liftFor(0, 300), 14);
        Check.same("90, as it is", night.liftFor(0, 90), 0);
        Check.same("91", night.liftFor(0, 91), 1);
        Check.same("1", night.liftFor(0, 1), 0);
    }

    private static void liftForWhereverItIs() {
        Check.begin("promise 28: '(wherever it is)'");
        Kelirnight night = Nights.pairs(2);
        Check.same("boxed", night.liftFor(0, 50), 10);
        night.grip(0);
        Check.same("in a hand", night.liftFor(0, 50), 10);
        night.lift(0, 15);
        Check.same("lifted above it", night.liftFor(0, 50), 10);
        Check.same("the lift stays", night.ofFigure(0, 5), 15);
        night.plant(0);
        Check.same("planted", night.liftFor(0, 50), 10);
        Check.same("not lifted by it", night.ofFigure(0, 5), 0);
        night.grip(0);
        night.away(0);
        Check.same("put away", night.liftFor(0, 50), 10);
    }

    private static void liftForNoFigure() {
        Check.begin("promise 28: 'IndexOutOfBoundsException if there is no such FIGURE'");
        for (int figures : new int[] {0, 1, 11, 12}) {
            Check.noSuch("figure", figures, () -> Nights.pairs(figures), (night, figure) -> night.liftFor(figure, 1));
            Check.noSuch("figure", figures, () -> Nights.pairs(figures), (night, figure) -> night.liftFor(figure, 0));
        }
        Check.same("the last one", Nights.pairs(12).liftFor(11, 40), 0);
    }

    private static void liftForArguments() {
        Check.begin("promise 28: 'IllegalArgumentException if shadow is not 1 to 400'");
        Check.range("shadow", 1, 400, ARGUMENT, () -> Nights.pairs(2), (night, shadow) -> night.liftFor(1, shadow));
    }

    /** Persons 0 and 1 have six figures each; 0 and 1 stand in the middle, and the hands are full as said. */
    private static Kelirnight stage(int left, int right, boolean held) {
        Kelirnight night = Nights.pairs(12);
        Nights.stand(night, 2, 0);
        night.grip(2);
        night.move(2, 1);
        night.plant(2);
        Nights.stand(night, 0, left);
        Nights.stand(night, 1, right);
        if (held) {
            night.grip(2);
        }
        return night;
    }

    private static void compareGripable(String what, Supplier<Kelirnight> made) {
        int due = 0;
        for (int k = 0; k < 12; k++) {
            int figure = k;
            Kelirnight night = made.get();
            if (Check.thrownBy(() -> night.grip(figure)) == null) {
                due |= 1 << k;
            }
        }
        Check.same(what, made.get().gripable(), due);
    }

    private static void gripableIsWhatCanBeGripped() {
        Check.begin("promise 29: 'the set of FIGURES that could be GRIPPED now'");
        for (int left : new int[] {0, 3, 4, 5}) {
            for (int right : new int[] {6, 7, 9}) {
                String what = left + " and " + right;
                compareGripable(what, () -> stage(left, right, false));
                compareGripable(what + ", the left hand is full", () -> stage(left, right, true));
            }
        }
    }

    private static void gripableIsTheSet() {
        Check.begin("promise 29: the set, empty and full");
        Check.same("without figures", new Kelirnight().gripable(), 0);
        for (int figures = 1; figures <= 12; figures++) {
            Check.same("all of " + figures, Nights.pairs(figures).gripable(), (1 << figures) - 1);
        }
        Kelirnight night = Nights.pairs(12);
        night.grip(10);
        Check.same("the right ones", night.gripable(), 0b101010101010);
        night.grip(11);
        Check.same("none", night.gripable(), 0);
        night.plant(10);
        Check.same("the planted one, place 0 is full", night.gripable(), 1 << 10);
        night.grip(10);
        night.move(10, 1);
        night.plant(10);
        Check.same("the left ones", night.gripable(), 0b010101010101);
        night.plant(11);
        Check.same("without those of the right box", night.gripable(), 0b110101010101);
    }

    /** The checksum without a bound, cut to 64 bits at last. */
    private static long exactDigest(Kelirnight night) {
        BigInteger d = BigInteger.valueOf(58227);
        for (long v : Digest.numbersOf(night)) {
            d = d.multiply(BigInteger.valueOf(31)).add(BigInteger.valueOf(v));
        }
        return d.longValue();
    }

    private static void digestOfAnEmptyNight() {
        Check.begin("promise 30: 'A number d starts with 58227'");
        Kelirnight night = new Kelirnight();
        Check.same("numbers", Digest.numbersOf(night).size(), 16 + 10 + 4 + 3);
        Check.same("digest", night.digest(), exactDigest(night));
        Check.same("again", night.digest(), exactDigest(new Kelirnight()));
    }

    private static Kelirnight full() {
        Kelirnight night = Nights.crowd(8);
        for (int k = 0; k < 12; k++) {
            night.figure(k % 8, 30 + 5 * k);
        }
        for (int k = 0; k < 10; k++) {
            night.scene(40 + k, k % 4, 255 - k, 50 + k, 7, 6 - k % 2);
        }
        Nights.stand(night, 0, 3);
        Nights.stand(night, 1, 6);
        night.grip(2);
        night.lift(2, 15);
        return night;
    }

    private static void digestOfAFullNight() {
        Check.begin("promise 30: 'for each of the following numbers v, d becomes d * 31 + v'");
        Kelirnight night = full();
        Check.same("numbers", Digest.numbersOf(full()).size(), 16 + 8 + 12 * 9 + 10 * 9 + 10 + 4 + 3);
        Check.same("digest", night.digest(), exactDigest(full()));
        for (int height = 10; height <= 90; height++) {
            Kelirnight one = Nights.crowd(1);
            one.figure(0, height);
            Check.same("with a height of " + height, one.digest(), exactDigest(one));
        }
    }

    private static void digestWrapsAround() {
        Check.begin("promise 30: 'which wraps around as a 64-bit integer'");
        int below = 0;
        for (int k = 0; k < 16; k++) {
            Kelirnight night = new Kelirnight();
            for (int jokes = 0; jokes < k; jokes++) {
                night.joke(1);
            }
            long digest = night.digest();
            below += digest < 0 ? 1 : 0;
            Check.same(k + " jokes", digest, exactDigest(night));
        }
        Check.truth("some are below 0, some above", below > 0 && below < 16, true);
    }

    private static void digestTellsWhoKnows() {
        Check.begin("promise 30: '1, if it knows the SECRET behind the last SCENE of the PLOT (at first, without one)'");
        Kelirnight without = Nights.crowd(3);
        Check.same("at first", without.digest(), exactDigest(without));
        Kelirnight night = Nights.crowd(3);
        night.scene(50, 0, 3, 20, -1, 0);
        Check.same("behind one", night.digest(), exactDigest(night));
        night.scene(50, 0, 6, 20, -1, 1);
        Check.same("behind the last of two", night.digest(), exactDigest(night));
        night.swap(0, 1);
        Check.same("in the other order", night.digest(), exactDigest(night));
    }
}
