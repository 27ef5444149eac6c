import java.util.List;

/** Promises 19 to 25, what is asked: the edges that each of their sentences names. */
public final class AskedEdgesTest {
    private static final Class<IllegalArgumentException> ARGUMENT = IllegalArgumentException.class;
    private static final Class<IndexOutOfBoundsException> INDEX = IndexOutOfBoundsException.class;

    public static void main(String[] args) {
        knowsAtFirst();
        knowsBehindTheScene();
        knowsOfNobody();
        knowsOfNoScene();
        ofFigureAnswers();
        ofNoFigure();
        ofFigureArguments();
        ofSceneAnswers();
        ofNoScene();
        ofSceneArguments();
        atAnswers();
        atNoPlace();
        soundAnswers();
        soundArguments();
        manyAnswers();
        manyAtTheirMost();
        manyArguments();
        meanIsZeroWithoutAny();
        meanIsNotCut();
        meanOfWholeShadows();
        meanOfTheScreenAlone();
        askingChangesNothing();
        Check.end();
    }

    private static void knowsAtFirst() {
        Check.begin("promise 19: '(NONE: at first)'");
        Kelirnight night = Nights.crowd(8);
        night.scene(50, 0, 255, 5, -1, 0);
        for (int k = 0; k < 8; k++) {
            Check.truth(k + " at first", night.knows(k, -1), k == 0);
            Check.truth(k + " behind", night.knows(k, 0), true);
        }
    }

    private static void knowsBehindTheScene() {
        Check.begin("promise 19: 'Returns whether the PERSON knows the SECRET behind that SCENE of the PLOT'");
        Kelirnight night = Nights.crowd(8);
        night.scene(50, 0, 254, 5, -1, 1);
        for (int k = 1; k < 8; k++) {
            night.scene(50, 0, 3 << (k - 1), 5, -1, k - 1);
        }
        night.scene(50, 0, 255, 5, -1, -1);
        for (int scene = 0; scene <= 8; scene++) {
            for (int k = 0; k < 8; k++) {
                Check.truth(k + " behind " + scene, night.knows(k, scene), k <= scene);
            }
        }
        night = Nights.row(5, 6);
        Check.same("one told behind the scenes", night.person(0, 0, 0, 0, 1, true), 3);
        for (int scene = -1; scene <= 1; scene++) {
            Check.truth("it knows behind " + scene, night.knows(3, scene), true);
        }
        Kelirnight late = Nights.passAll(Nights.row(5), 540);
        late.scene(50, 0, 3, 5, -1, 0);
        Check.truth("whatever the minute is", late.knows(1, 0), false);
        Check.truth("whatever the minute is", late.knows(1, 1), true);
    }

    private static void knowsOfNobody() {
        Check.begin("promise 19: 'IndexOutOfBoundsException if there is no such PERSON'");
        for (int persons = 0; persons <= 8; persons++) {
            int all = persons;
            Check.noSuch("person", all, () -> Nights.crowd(all), (night, person) -> night.knows(person, -1));
            if (all > 0) {
                Check.taken("the last one", () -> Nights.crowd(all), night -> night.knows(all - 1, -1));
            }
        }
    }

    private static void knowsOfNoScene() {
        Check.begin("promise 19: 'or scene is neither NONE nor a SCENE'");
        for (int scenes : new int[] {0, 1, 9, 10}) {
            int[] lengths = new int[scenes];
            java.util.Arrays.fill(lengths, 5);
            Check.range("scene", -1, scenes - 1, INDEX, () -> Nights.row(lengths),
                    (night, scene) -> night.knows(2, scene));
        }
    }

    private static void compareFigure(String what, Kelirnight night, int figure, int... due) {
        for (int k = 0; k < due.length; k++) {
            Check.same(what + ", ofFigure(" + figure + ", " + k + ")", night.ofFigure(figure, k), due[k]);
        }
    }

    private static void ofFigureAnswers() {
        Check.begin("promise 20: '4 its PLACE (NONE in its BOX), 5 by how much it is LIFTED, ..'");
        Kelirnight night = Nights.crowd(8);
        night.figure(7, 90);
        night.figure(6, 10);
        compareFigure("boxed", night, 0, 7, 90, 0, 0, -1, 0, 90, 0);
        night.grip(0);
        compareFigure("gripped", night, 0, 7, 90, 0, 3, 9, 0, 90, 0);
        night.lamp(20, 9);
        night.lift(0, 15);
        compareFigure("lifted", night, 0, 7, 90, 0, 3, 9, 15, 360, 37);
        night.move(0, 4);
        night.move(0, 9);
        compareFigure("moved", night, 0, 7, 90, 10, 3, 9, 15, 360, 38);
        night.plant(0);
        compareFigure("planted", night, 0, 7, 90, 10, 1, 9, 0, 90, 1);
        night.grip(1);
        compareFigure("gripped", night, 1, 6, 10, 0, 2, 0, 0, 10, 0);
        night.grip(0);
        night.away(0);
        compareFigure("put away", night, 0, 7, 90, 10, 0, -1, 0, 90, 1);
    }

    private static void ofNoFigure() {
        Check.begin("promise 20: 'IndexOutOfBoundsException if there is no such FIGURE'");
        for (int figures : new int[] {0, 1, 11, 12}) {
            Check.noSuch("figure", figures, () -> Nights.pairs(figures), (night, figure) -> night.ofFigure(figure, 0));
            Check.noSuch("figure", figures, () -> Nights.pairs(figures), (night, figure) -> night.ofFigure(figure, 9));
        }
        Check.same("the last one", Nights.pairs(12).ofFigure(11, 0), 1);
    }

    private static void ofFigureArguments() {
        Check.begin("promise 20: 'IllegalArgumentException if what is not 0 to 7'");
        Check.range("what", 0, 7, ARGUMENT, () -> Nights.pairs(2), (night, what) -> night.ofFigure(1, what));
    }

    private static void compareScene(String what, Kelirnight night, int scene, int... due) {
        for (int k = 0; k < due.length; k++) {
            Check.same(what + ", ofScene(" + scene + ", " + k + ")", night.ofScene(scene, k), due[k]);
        }
    }

    private static void ofSceneAnswers() {
        Check.begin("promise 21: '0 its year, .. 6 the minute in which it begins, 7 its PART, 8 its BREACH'");
        Kelirnight night = Nights.crowd(8);
        night.scene(0, 0, 1, 5, -1, -1);
        night.scene(100, 3, 255, 90, 7, 6);
        night.scene(99, 1, 129, 90, 7, 0);
        compareScene("all at their least", night, 0, 0, 0, 1, 5, -1, -1, 0, 0, 0);
        compareScene("all at their most", night, 1, 100, 3, 255, 90, 7, 6, 5, 0, 3);
        compareScene("who dies too early", night, 2, 99, 1, 129, 90, 7, 0, 95, 0, 2);
        Nights.passAll(night, 540);
        compareScene("whatever the minute is", night, 1, 100, 3, 255, 90, 7, 6, 5, 0, 3);
    }

    private static void ofNoScene() {
        Check.begin("promise 21: 'IndexOutOfBoundsException if there is no such SCENE'");
        for (int scenes : new int[] {0, 1, 9, 10}) {
            int[] lengths = new int[scenes];
            java.util.Arrays.fill(lengths, 5);
            Check.noSuch("scene", scenes, () -> Nights.row(lengths), (night, scene) -> night.ofScene(scene, 0));
            Check.noSuch("scene", scenes, () -> Nights.row(lengths), (night, scene) -> night.ofScene(scene, -1));
        }
        Check.same("the last one", Nights.row(5, 5, 5, 5, 5, 5, 5, 5, 5, 90).ofScene(9, 3), 90);
    }

    private static void ofSceneArguments() {
        Check.begin("promise 21: 'IllegalArgumentException if what is not 0 to 8'");
        Check.range("what", 0, 8, ARGUMENT, () -> Nights.row(5, 6), (night, what) -> night.ofScene(1, what));
    }

    private static void atAnswers() {
        Check.begin("promise 22: 'Returns the FIGURE there (NONE)'");
        Kelirnight night = Nights.pairs(12);
        for (int place = 0; place <= 9; place++) {
            Check.same("at " + place + ", all boxed", night.at(place), -1);
        }
        for (int k = 0; k < 4; k++) {
            Nights.stand(night, 2 * k, 4 - k);
            Nights.stand(night, 2 * k + 1, 5 + k);
        }
        night.grip(10);
        night.grip(11);
        int[] due = {10, 6, 4, 2, 0, 1, 3, 5, 7, 11};
        for (int place = 0; place <= 9; place++) {
            Check.same("at " + place + ", all full", night.at(place), due[place]);
        }
        night.away(10);
        night.away(11);
        Check.same("at 0, put away", night.at(0), -1);
        Check.same("at 9, put away", night.at(9), -1);
        Check.same("at 1", night.at(1), 6);
    }

    private static void atNoPlace() {
        Check.begin("promise 22: 'IndexOutOfBoundsException if place is not 0 to 9'");
        Check.range("place", 0, 9, INDEX, () -> Nights.pairs(2), (night, place) -> night.at(place));
        Check.range("place of an empty night", 0, 9, INDEX, Kelirnight::new, (night, place) -> night.at(place));
    }

    private static void soundAnswers() {
        Check.begin("promise 23: '(NONE, if it is SILENT) .. (1 to 3: 0, if it is SILENT)'");
        Kelirnight night = Nights.playing(3);
        night.tap(1);
        night.pass(5);
        night.tap(3);
        int[] playing = {3, 2, 16, 3};
        for (int k = 0; k < 4; k++) {
            Check.same("playing, sound(" + k + ")", night.sound(k), playing[k]);
        }
        night.pass(1);
        int[] silent = {-1, 0, 0, 0};
        for (int k = 0; k < 4; k++) {
            Check.same("silent, sound(" + k + ")", night.sound(k), silent[k]);
        }
        night.tap(2);
        Check.same("a missed tap does not wait", night.sound(3), 0);
    }

    private static void soundArguments() {
        Check.begin("promise 23: 'IllegalArgumentException if what is not 0 to 3'");
        Check.range("playing, what", 0, 3, ARGUMENT, () -> Nights.playing(2), (night, what) -> night.sound(what));
        Check.range("silent, what", 0, 3, ARGUMENT, Kelirnight::new, (night, what) -> night.sound(what));
    }

    private static void manyAnswers() {
        Check.begin("promise 24: each question of a night that is empty");
        Kelirnight night = new Kelirnight();
        int[] due = {0, 0, 0, 0, 0, 0, -1, 0, 0, 0, 20, 0, 0, 0, 0, 0};
        for (int what = 0; what <= 15; what++) {
            Check.same("many(" + what + ")", night.many(what), due[what]);
        }
        Nights.passAll(night, 540);
        due[0] = 540;
        for (int what = 0; what <= 15; what++) {
            Check.same("in 540, many(" + what + ")", night.many(what), due[what]);
        }
    }

    private static void manyAtTheirMost() {
        Check.begin("promise 24: each question of a night that is full");
        Kelirnight night = Nights.crowd(8);
        for (int k = 0; k < 12; k++) {
            night.figure(k % 8, 40);
        }
        for (int k = 0; k < 10; k++) {
            night.scene(50, 3, 1, 90, 0, -1);
        }
        int[] places = {1, 8, 2, 7, 3, 6, 4, 5};
        for (int k = 0; k < 8; k++) {
            Nights.stand(night, k, places[k]);
        }
        night.grip(8);
        night.grip(9);
        night.tap(0);
        night.speak(7, 0, 9, 1);
        night.speak(0, 7, 9, -1);
        night.joke(9);
        night.joke(9);
        night.joke(9);
        night.tap(0);
        night.tap(0);
        int[] due = {18, 8, 12, 10, 900, 10, 0, 255, 254, 7 + 1 + 21, 2, 2, 2, 1, 4, 10};
        for (int what = 0; what <= 15; what++) {
            Check.same("many(" + what + ")", night.many(what), due[what]);
        }
    }

    private static void manyArguments() {
        Check.begin("promise 24: 'IllegalArgumentException if what is not 0 to 15'");
        Check.range("what", 0, 15, ARGUMENT, Nights::troupe, (night, what) -> night.many(what));
        Check.range("what of an empty night", 0, 15, ARGUMENT, Kelirnight::new, (night, what) -> night.many(what));
    }

    private static void meanIsZeroWithoutAny() {
        Check.begin("promise 25: '0 without any'");
        Check.sameReal("without figures", new Kelirnight().meanShadow(), 0.0);
        Kelirnight night = Nights.pairs(12);
        Check.sameReal("all in their boxes", night.meanShadow(), 0.0);
        night.grip(0);
        Check.sameReal("one", night.meanShadow(), 40.0);
        night.away(0);
        Check.sameReal("none again", night.meanShadow(), 0.0);
    }

    /** Figures of these heights, 1 in all for each, stand from the place 1 on. */
    private static Kelirnight standing(int... heights) {
        Kelirnight night = Nights.crowd(1);
        for (int k = 0; k < heights.length; k++) {
            night.figure(0, heights[k]);
            Nights.stand(night, k, k + 1);
        }
        return night;
    }

    private static void meanIsNotCut() {
        Check.begin("promise 25: 'the mean .., not cut'");
        Check.sameReal("two", standing(40, 41).meanShadow(), 40.5);
        Check.sameReal("three", standing(40, 40, 41).meanShadow(), 121 / 3.0);
        Check.sameReal("three", standing(40, 41, 41).meanShadow(), 122 / 3.0);
        Check.sameReal("four", standing(10, 10, 10, 11).meanShadow(), 10.25);
        Check.sameReal("four", standing(90, 90, 90, 89).meanShadow(), 89.75);
    }

    private static void meanOfWholeShadows() {
        Check.begin("promise 25: 'of the SHADOWS (whole ones)'");
        Kelirnight night = standing(10, 10);
        night.grip(0);
        Check.same("10 by 50 / 36 = 13.9", night.lift(0, 14), 13);
        Check.sameReal("13 and 10", night.meanShadow(), 11.5);
        Kelirnight both = Nights.pairs(2);
        both.grip(0);
        both.grip(1);
        both.lift(0, 9);
        both.lift(1, 9);
        Check.sameReal("48.8 twice", both.meanShadow(), 48.0);
    }

    private static void meanOfTheScreenAlone() {
        Check.begin("promise 25: 'of FIGURES on the screen'");
        Kelirnight night = Nights.crowd(2);
        night.figure(0, 10);
        night.figure(1, 20);
        night.figure(0, 90);
        night.grip(0);
        night.grip(1);
        Check.sameReal("in both hands", night.meanShadow(), 15.0);
        night.plant(1);
        Check.sameReal("one is planted", night.meanShadow(), 15.0);
        night.away(0);
        Check.sameReal("one is put away", night.meanShadow(), 20.0);
    }

    private static void askingChangesNothing() {
        Check.begin("'what is asked', 'what would be (nothing is changed)'");
        List<String> want = Probe.of(Nights.amid());
        Kelirnight night = Nights.amid();
        for (int k = 0; k <= 15; k++) {
            night.many(k);
            night.sound(k % 4);
            night.at(k % 10);
            night.ofFigure(k % 4, k % 8);
            night.ofScene(k % 3, k % 9);
            night.knows(k % 3, k % 4 - 1);
            night.liftFor(k % 4, 60 + k);
        }
        night.meanShadow();
        night.nextGong();
        night.bestSwap();
        night.gripable();
        night.digest();
        Check.truth("it goes on as without the questions", Probe.of(night).equals(want), true);
    }
}
