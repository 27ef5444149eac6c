/** Promises 1 to 7, what is told: the edges that each of their sentences names. */
public final class ToldEdgesTest {
    private static final Class<IllegalArgumentException> ARGUMENT = IllegalArgumentException.class;
    private static final Class<IllegalStateException> STATE = IllegalStateException.class;
    private static final Class<IndexOutOfBoundsException> INDEX = IndexOutOfBoundsException.class;

    private static final int MOST = Integer.MAX_VALUE;
    private static final int LEAST = Integer.MIN_VALUE;

    private static final int PLOT_END = 4;
    private static final int BREACHES = 5;
    private static final int ON = 6;

    private static final int LENGTH = 3;
    private static final int BEGINS = 6;

    public static void main(String[] args) {
        aNewNight();
        personNumber();
        personArguments();
        personWhenFull();
        figureNumber();
        figureOfNoPerson();
        figureHeight();
        figureWhenFull();
        sceneAsTheLastOne();
        sceneArguments();
        sceneWhenFull();
        lengthFromNowOn();
        lengthBefore();
        lengthOfNoScene();
        lengthArguments();
        lengthIfItIsOver();
        lengthCutToThePast();
        swapTheirNumbers();
        swapTheSame();
        swapBreaches();
        swapOfNoScene();
        swapAboveTheMinuteZero();
        lampBefore();
        lampArguments();
        Check.end();
    }

    private static void aNewNight() {
        Check.begin("promise 1: 'Creates a night without FIGURES'");
        Kelirnight night = new Kelirnight();
        Check.same("figures", night.many(2), 0);
        Check.same("on the screen", night.many(15), 0);
        Check.same("gripable", night.gripable(), 0);
        Check.refusal("no figure 0", INDEX, Kelirnight::new, empty -> empty.ofFigure(0, 0));
        Kelirnight other = new Kelirnight();
        night.person(0, 0, 0, 0, 1, false);
        night.figure(0, 50);
        night.joke(9);
        night.lamp(20, 9);
        Check.same("one night is not the other", other.many(2), 0);
        Check.same("one night is not the other", other.digest(), new Kelirnight().digest());
        Check.same("one night is not the other", other.lamp(50, 0), 50);
    }

    private static void personNumber() {
        Check.begin("promise 2: 'Returns its number'");
        for (int count = 0; count < 8; count++) {
            Check.same("behind " + count, Nights.crowd(count).person(1, 3, 9, 99, 100, true), count);
        }
    }

    private static void personArguments() {
        Check.begin("promise 2: 'IllegalArgumentException if one of these is not as section 1 says'");
        for (int wrong : new int[] {-1, 2, 32, LEAST, MOST}) {
            Check.refusal("side " + wrong, ARGUMENT, () -> Nights.crowd(7),
                    night -> night.person(wrong, 3, 9, 99, 100, true));
        }
        for (int wrong : new int[] {-1, 4, 32, LEAST, MOST}) {
            Check.refusal("rank " + wrong, ARGUMENT, () -> Nights.crowd(7),
                    night -> night.person(1, wrong, 9, 99, 100, true));
        }
        for (int wrong : new int[] {-1, 10, 32, LEAST, MOST}) {
            Check.refusal("pitch " + wrong, ARGUMENT, () -> Nights.crowd(7),
                    night -> night.person(1, 3, wrong, 99, 100, true));
        }
        for (int wrong : new int[] {-1, 100, 101, LEAST, MOST}) {
            Check.refusal("born " + wrong, ARGUMENT, () -> Nights.crowd(7),
                    night -> night.person(1, 3, 9, wrong, 100, true));
        }
        for (int wrong : new int[] {-1, 0, 98, 99, 101, LEAST, MOST}) {
            Check.refusal("dies " + wrong, ARGUMENT, () -> Nights.crowd(7),
                    night -> night.person(1, 3, 9, 99, wrong, true));
        }
    }

    private static void personWhenFull() {
        Check.begin("promise 2: 'IllegalStateException if there are 8'");
        Check.taken("with 7", () -> Nights.crowd(7), night -> night.person(0, 0, 0, 0, 1, true));
        Check.refusal("with 8", STATE, () -> Nights.crowd(8), night -> night.person(0, 0, 0, 0, 1, true));
        Check.refusal("with 8, all at their most", STATE, () -> Nights.crowd(8),
                night -> night.person(1, 3, 9, 99, 100, false));
    }

    private static void figureNumber() {
        Check.begin("promise 3: 'Returns its number'");
        for (int count = 0; count < 12; count++) {
            Kelirnight night = Nights.pairs(count);
            Check.same("behind " + count, night.figure(1, 90), count);
            Check.same("its person", night.ofFigure(count, 0), 1);
            Check.same("its height", night.ofFigure(count, 1), 90);
        }
    }

    private static void figureOfNoPerson() {
        Check.begin("promise 3: 'IndexOutOfBoundsException if there is no such PERSON'");
        for (int persons = 0; persons <= 8; persons++) {
            int all = persons;
            Check.noSuch("person", all, () -> Nights.crowd(all), (night, person) -> night.figure(person, 50));
            if (all > 0) {
                Check.taken("the last one", () -> Nights.crowd(all), night -> night.figure(all - 1, 50));
            }
        }
    }

    private static void figureHeight() {
        Check.begin("promise 3: 'IllegalArgumentException if height is not 10 to 90'");
        Check.range("height", 10, 90, ARGUMENT, () -> Nights.pairs(11), (night, height) -> night.figure(1, height));
    }

    private static void figureWhenFull() {
        Check.begin("promise 3: 'IllegalStateException if there are 12'");
        Check.taken("with 11", () -> Nights.pairs(11), night -> night.figure(0, 50));
        Check.refusal("with 12", STATE, () -> Nights.pairs(12), night -> night.figure(0, 50));
        Check.refusal("with 12, of a new person", STATE, () -> newPersonBeside12(), night -> night.figure(2, 10));
    }

    private static Kelirnight newPersonBeside12() {
        Kelirnight night = Nights.pairs(12);
        night.person(0, 0, 0, 0, 1, false);
        return night;
    }

    private static void sceneAsTheLastOne() {
        Check.begin("promise 4: 'Tells a SCENE, as the last one', 'Returns its number'");
        Kelirnight night = Nights.crowd(3);
        int begins = 0;
        for (int k = 0; k < 10; k++) {
            Check.same("number", night.scene(k * 11, k % 4, 1 + k % 7, 5 + 9 * k, -1, -1), k);
            Check.same("begins", night.ofScene(k, BEGINS), begins);
            begins += 5 + 9 * k;
            Check.same("the plot is over", night.many(PLOT_END), begins);
        }
        Kelirnight late = Nights.passAll(Nights.row(5), 540);
        Check.same("in the minute 540", late.scene(50, 0, 1, 5, -1, -1), 1);
    }

    private static void sceneArguments() {
        Check.begin("promise 4: 'IllegalArgumentException if year is not 0 to 100, ..'");
        for (int wrong : new int[] {-1, 101, LEAST, MOST}) {
            Check.refusal("year " + wrong, ARGUMENT, () -> Nights.row(5), night -> night.scene(wrong, 0, 1, 5, -1, -1));
        }
        for (int wrong : new int[] {-1, 4, LEAST, MOST}) {
            Check.refusal("mood " + wrong, ARGUMENT, () -> Nights.row(5), night -> night.scene(0, wrong, 1, 5, -1, -1));
        }
        for (int wrong : new int[] {0, -1, 8, 9, 15, 256, LEAST, LEAST + 1, MOST}) {
            Check.refusal("cast " + wrong, ARGUMENT, () -> Nights.row(5), night -> night.scene(0, 0, wrong, 5, -1, -1));
        }
        for (int wrong : new int[] {4, 91, 0, -5, LEAST, MOST}) {
            Check.refusal("length " + wrong, ARGUMENT, () -> Nights.row(5),
                    night -> night.scene(0, 0, 1, wrong, -1, -1));
        }
        for (int wrong : new int[] {-2, 1, 3, 32, 34, LEAST, MOST}) {
            Check.refusal("dies " + wrong, ARGUMENT, () -> Nights.row(5), night -> night.scene(0, 0, 5, 5, wrong, -1));
            Check.refusal("tells " + wrong, ARGUMENT, () -> Nights.row(5), night -> night.scene(0, 0, 5, 5, -1, wrong));
        }
        Check.taken("all at their least", () -> Nights.row(5), night -> night.scene(0, 0, 1, 5, -1, -1));
        Check.taken("all at their most", () -> Nights.row(5), night -> night.scene(100, 3, 7, 90, 2, 2));
    }

    private static void sceneWhenFull() {
        Check.begin("promise 4: 'IllegalStateException if there are 10'");
        Check.taken("with 9", () -> Nights.row(5, 5, 5, 5, 5, 5, 5, 5, 5), night -> night.scene(0, 0, 1, 5, -1, -1));
        Check.refusal("with 10", STATE, () -> Nights.row(5, 5, 5, 5, 5, 5, 5, 5, 5, 5),
                night -> night.scene(0, 0, 1, 5, -1, -1));
    }

    private static void lengthFromNowOn() {
        Check.begin("promise 5: 'its LENGTH from now on'");
        for (int length = 5; length <= 90; length++) {
            Kelirnight night = Nights.row(20, 30, 40);
            night.length(1, length);
            Check.same("its length", night.ofScene(1, LENGTH), length);
            Check.same("it begins", night.ofScene(1, BEGINS), 20);
            Check.same("the next begins", night.ofScene(2, BEGINS), 20 + length);
            Check.same("the plot is over", night.many(PLOT_END), 60 + length);
        }
        Kelirnight late = Nights.row(90, 90, 90, 90, 90, 90);
        Check.same("over at 540", late.many(BREACHES), 0);
        late.length(0, 89);
        late.scene(50, 3, 1, 5, -1, -1);
        Check.same("over at 544", late.many(BREACHES), 1);
        late.length(6, 5);
        late.length(1, 86);
        Check.same("over at 540", late.many(BREACHES), 0);
    }

    private static void lengthBefore() {
        Check.begin("promise 5: 'Returns that before'");
        Kelirnight night = Nights.row(20, 30);
        Check.same("told", night.length(1, 90), 30);
        Check.same("changed", night.length(1, 90), 90);
        Check.same("the same again", night.length(1, 5), 90);
        Check.same("changed", night.length(1, 30), 5);
        Check.same("the other one", night.length(0, 20), 20);
    }

    private static void lengthOfNoScene() {
        Check.begin("promise 5: 'IndexOutOfBoundsException if there is no such SCENE'");
        Check.noSuch("scene", 0, () -> Nights.crowd(1), (night, scene) -> night.length(scene, 20));
        Check.noSuch("scene", 1, () -> Nights.row(5), (night, scene) -> night.length(scene, 20));
        Check.noSuch("scene", 10, () -> Nights.row(5, 5, 5, 5, 5, 5, 5, 5, 5, 5), (night, scene) -> night.length(scene, 20));
        Check.taken("the last one", () -> Nights.row(5, 5, 5, 5, 5, 5, 5, 5, 5, 5), night -> night.length(9, 20));
    }

    private static void lengthArguments() {
        Check.begin("promise 5: 'IllegalArgumentException if length is not 5 to 90'");
        Check.range("length", 5, 90, ARGUMENT, () -> Nights.row(20, 30), (night, length) -> night.length(1, length));
        Check.refusal("4, of one that is over", ARGUMENT, () -> Nights.passAll(Nights.row(5), 9),
                night -> night.length(0, 4));
        Check.refusal("91, of one that is over", ARGUMENT, () -> Nights.passAll(Nights.row(5), 9),
                night -> night.length(0, 91));
    }

    private static void lengthIfItIsOver() {
        Check.begin("promise 5: 'IllegalStateException if it is over by now'");
        int[] lengths = {5, 17, 90};
        int end = 0;
        for (int k = 0; k < lengths.length; k++) {
            end += lengths[k];
            int scene = k;
            int over = end;
            Check.taken("its last minute", () -> Nights.passAll(Nights.row(lengths), over - 1),
                    night -> night.length(scene, 90));
            Check.refusal("over", STATE, () -> Nights.passAll(Nights.row(lengths), over),
                    night -> night.length(scene, 90));
            Check.refusal("a minute later", STATE, () -> Nights.passAll(Nights.row(lengths), over + 1),
                    night -> night.length(scene, 90));
        }
        Check.taken("over at 541, in 540", () -> Nights.passAll(Nights.fullUpTo(541), 540),
                night -> night.length(6, 90));
        Check.refusal("over at 540, in 540", STATE, () -> Nights.passAll(Nights.fullUpTo(540), 540),
                night -> night.length(5, 90));
        Check.taken("not yet begun", () -> Nights.passAll(Nights.row(5, 5), 4), night -> night.length(1, 90));
    }

    private static void lengthCutToThePast() {
        Check.begin("promise 5: 'if it is over by now', by the length ahead of the call");
        int[] on = {1, 1, 1, 0, 0};
        for (int k = 0; k < on.length; k++) {
            Kelirnight night = Nights.passAll(Nights.row(20, 90), 7);
            Check.same("before", night.length(0, 5 + k), 20);
            Check.same("on with " + (5 + k), night.many(ON), on[k]);
            Check.same("the next begins", night.ofScene(1, BEGINS), 5 + k);
        }
        Check.refusal("cut to 7 in 7, then it is over", STATE, ToldEdgesTest::cutTo7, night -> night.length(0, 20));
    }

    private static Kelirnight cutTo7() {
        Kelirnight night = Nights.passAll(Nights.row(20, 90), 7);
        night.length(0, 7);
        return night;
    }

    /** Ten scenes that differ in all that is told of them. */
    private static Kelirnight tenScenes() {
        Kelirnight night = Nights.crowd(8);
        for (int k = 0; k < 10; k++) {
            night.scene(40 + k, k % 4, 255 - k, 10 + k, 7, 6 - k % 2);
        }
        return night;
    }

    private static void swapTheirNumbers() {
        Check.begin("promise 6: 'Exchanges two SCENES of the PLOT (their numbers, too)'");
        for (int[] pair : new int[][] {{0, 1}, {0, 9}, {9, 0}, {8, 9}, {4, 5}, {7, 2}}) {
            Kelirnight told = tenScenes();
            Kelirnight night = tenScenes();
            night.swap(pair[0], pair[1]);
            int begins = 0;
            for (int k = 0; k < 10; k++) {
                int from = k == pair[0] ? pair[1] : k == pair[1] ? pair[0] : k;
                for (int what = 0; what <= 5; what++) {
                    Check.same("scene " + k + ", " + what, night.ofScene(k, what), told.ofScene(from, what));
                }
                Check.same("begin of " + k, night.ofScene(k, BEGINS), begins);
                begins += 10 + from;
            }
        }
    }

    private static void swapTheSame() {
        Check.begin("promise 6: '(or the same: nothing is changed then)'");
        for (int scene = 0; scene <= 9; scene++) {
            Kelirnight night = tenScenes();
            long before = night.digest();
            Check.same("breaches", night.swap(scene, scene), night.many(BREACHES));
            Check.same("digest", night.digest(), before);
        }
    }

    private static void swapBreaches() {
        Check.begin("promise 6: 'Returns how many SCENES have a BREACH then'");
        Kelirnight night = Nights.crowd(3);
        night.scene(50, 0, 6, 20, -1, 1);
        night.scene(50, 0, 6, 20, -1, 2);
        night.scene(50, 0, 7, 20, -1, 0);
        Check.same("told", night.many(BREACHES), 2);
        Check.same("the teller second", night.swap(1, 2), 1);
        Check.same("asked", night.many(BREACHES), 1);
        Check.same("the teller first", night.swap(0, 1), 0);
        Check.same("asked", night.many(BREACHES), 0);
        Check.same("the teller last", night.swap(0, 2), 2);
        Check.same("asked", night.many(BREACHES), 2);
    }

    private static void swapOfNoScene() {
        Check.begin("promise 6: 'IndexOutOfBoundsException if one of them is no such SCENE'");
        Check.noSuch("one", 10, ToldEdgesTest::tenScenes, (night, scene) -> night.swap(scene, 0));
        Check.noSuch("other", 10, ToldEdgesTest::tenScenes, (night, scene) -> night.swap(9, scene));
        Check.noSuch("both", 10, ToldEdgesTest::tenScenes, (night, scene) -> night.swap(scene, scene));
        Check.noSuch("without scenes", 0, () -> Nights.crowd(1), (night, scene) -> night.swap(scene, scene));
        Check.noSuch("with one", 1, () -> Nights.row(5), (night, scene) -> night.swap(0, scene));
        Check.noSuch("above the minute 0", 1, () -> Nights.passAll(Nights.row(5), 1), (night, scene) -> night.swap(0, scene));
    }

    private static void swapAboveTheMinuteZero() {
        Check.begin("promise 6: 'IllegalStateException if the MINUTE is above 0'");
        Check.taken("in 0", ToldEdgesTest::tenScenes, night -> night.swap(0, 9));
        for (int minute : new int[] {1, 2, 539, 540}) {
            Check.refusal("in " + minute, STATE, () -> Nights.passAll(tenScenes(), minute), night -> night.swap(0, 9));
            Check.refusal("the same in " + minute, STATE, () -> Nights.passAll(tenScenes(), minute),
                    night -> night.swap(3, 3));
        }
    }

    private static void lampBefore() {
        Check.begin("promise 7: 'Returns the DISTANCE before'");
        Kelirnight night = new Kelirnight();
        int[] distances = {20, 80, 80, 21, 79, 50};
        int before = 50;
        for (int distance : distances) {
            Check.same("before " + distance, night.lamp(distance, distance % 10), before);
            before = distance;
        }
    }

    private static Kelirnight lit() {
        Kelirnight night = Nights.pairs(2);
        night.lamp(44, 5);
        night.grip(0);
        night.lift(0, 13);
        return night;
    }

    private static void lampArguments() {
        Check.begin("promise 7: 'IllegalArgumentException if distance is not 20 to 80, or sway not 0 to 9'");
        Check.range("distance", 20, 80, ARGUMENT, ToldEdgesTest::lit, (night, distance) -> night.lamp(distance, 9));
        Check.range("sway", 0, 9, ARGUMENT, ToldEdgesTest::lit, (night, sway) -> night.lamp(20, sway));
        Check.refusal("both", ARGUMENT, ToldEdgesTest::lit, night -> night.lamp(19, 10));
    }
}
