/** Section 1 of the document, THE CYCLE: the edges that each of its sentences names. */
public final class CycleEdgesTest {
    private static final Class<IllegalArgumentException> ARGUMENT = IllegalArgumentException.class;
    private static final Class<IllegalStateException> STATE = IllegalStateException.class;
    private static final Class<IndexOutOfBoundsException> INDEX = IndexOutOfBoundsException.class;

    private static final int WEAR = 2;
    private static final int WHERE = 3;
    private static final int PLACE = 4;

    public static void main(String[] args) {
        at512Calls();
        numbersAreRoundedDown();
        noneIsMinusOne();
        setsAreSumsOfPowers();
        personsAreAtMostEight();
        sideIsLeftOrRight();
        rank();
        pitch();
        born();
        dies();
        secretAtFirst();
        figuresAreAtMostTwelve();
        onePersonHasSeveralFigures();
        height();
        wearIsZeroAtFirst();
        wearIsAHundredAtMost();
        figuresAreInTheirBoxAtFirst();
        boxIsThatOfTheSide();
        placesAreZeroToNine();
        aPlaceHasOneFigure();
        aHandHasOneFigure();
        reachOfTheLeftHand();
        reachOfTheRightHand();
        Check.end();
    }

    private static void at512Calls() {
        Check.begin("'An object is used for at most 512 calls'");
        Kelirnight night = new Kelirnight();
        for (int k = 0; k < 508; k++) {
            night.joke(1);
        }
        Check.truth("call 509", night.tap(3), false);
        Check.same("call 510", night.offer(), 5);
        Check.same("call 511", night.many(11), 1);
        Check.same("call 512", night.many(13), 508 - 20);
    }

    private static void numbersAreRoundedDown() {
        Check.begin("'what is divided is rounded down'");
        Kelirnight shadows = Nights.pairs(2);
        shadows.grip(0);
        Check.same("2000 / 41 = 48.8", shadows.lift(0, 9), 48);
        Check.same("2000 / 40", shadows.lift(0, 10), 50);
        Check.same("2000 / 39 = 51.3", shadows.lift(0, 11), 51);
        Kelirnight tired = Nights.pairs(2);
        tired.grip(0);
        Check.same("5 minutes by 5 / 3 = 8.3", tired.speak(0, 1, 5, 1), 1 + 8);
        Check.same("part of 179 / 180", Nights.row(90, 89, 5).ofScene(2, 7), 0);
    }

    private static void noneIsMinusOne() {
        Check.begin("'NONE is -1'");
        Kelirnight night = new Kelirnight();
        Check.same("the scene that is on", night.many(6), -1);
        Check.same("at a free place", night.at(4), -1);
        Check.same("the piece", night.sound(0), -1);
        Check.same("the next gong", night.nextGong(), -1);
        Check.same("the best swap", night.bestSwap(), -1);
        Check.taken("who dies and who tells", () -> Nights.crowd(1), one -> one.scene(0, 0, 1, 5, -1, -1));
        Check.refusal("dies -2", ARGUMENT, () -> Nights.crowd(1), one -> one.scene(0, 0, 1, 5, -2, -1));
        Check.refusal("tells -2", ARGUMENT, () -> Nights.crowd(1), one -> one.scene(0, 0, 1, 5, -1, -2));
        Check.truth("knows at first", Nights.crowd(1).knows(0, -1), true);
    }

    private static void setsAreSumsOfPowers() {
        Check.begin("'A set is the sum of 2^k'");
        Kelirnight night = Nights.crowd(8);
        for (int k = 0; k < 12; k++) {
            night.figure(k < 8 ? k : k % 2, 40);
        }
        night.scene(50, 0, 255, 5, 7, 0);
        Check.same("the cast of all 8", night.ofScene(0, 2), 255);
        Check.same("gripable of all 12", night.gripable(), 4095);
        int due = 0;
        for (int k = 0; k < 8; k++) {
            Nights.stand(night, k, k % 2 == 0 ? 1 + k / 2 : 8 - k / 2);
            due += Math.round(Math.pow(2, k));
            Check.same("on the screen up to " + k, night.many(7), due);
            Check.same("strangers behind the plot", Nights.passAll(again(k), 5).many(8), due);
        }
    }

    private static Kelirnight again(int last) {
        Kelirnight night = Nights.crowd(8);
        night.scene(50, 0, 255, 5, 7, 0);
        for (int k = 0; k <= last; k++) {
            night.figure(k, 40);
            Nights.stand(night, k, k % 2 == 0 ? 1 + k / 2 : 8 - k / 2);
        }
        return night;
    }

    private static void personsAreAtMostEight() {
        Check.begin("'PERSONS: at most 8, numbered from 0'");
        Kelirnight night = new Kelirnight();
        for (int k = 0; k < 8; k++) {
            Check.same("persons ahead", night.many(1), k);
            Check.same("number", night.person(0, 0, 0, 0, 1, false), k);
        }
        Check.same("persons", night.many(1), 8);
        Check.refusal("the ninth", STATE, () -> Nights.crowd(8), full -> full.person(0, 0, 0, 0, 1, false));
    }

    private static void sideIsLeftOrRight() {
        Check.begin("'a SIDE (0 left, 1 right)'");
        Check.range("side", 0, 1, ARGUMENT, Kelirnight::new, (night, side) -> night.person(side, 0, 0, 0, 1, false));
        Kelirnight night = Nights.pairs(2);
        Check.same("0 is left", night.grip(0), 2);
        Check.same("1 is right", night.grip(1), 3);
    }

    private static void rank() {
        Check.begin("'a RANK (0 to 3)'");
        Check.range("rank", 0, 3, ARGUMENT, Kelirnight::new, (night, rank) -> night.person(0, rank, 0, 0, 1, false));
    }

    private static void pitch() {
        Check.begin("'a PITCH (0 to 9)'");
        Check.range("pitch", 0, 9, ARGUMENT, Kelirnight::new, (night, pitch) -> night.person(0, 0, pitch, 0, 1, false));
        for (int pitch = 0; pitch <= 9; pitch++) {
            Kelirnight night = new Kelirnight();
            night.person(0, 0, pitch, 0, 1, false);
            night.person(0, 0, pitch, 0, 1, false);
            night.figure(0, 10);
            night.grip(0);
            Check.same("tired by " + pitch, night.speak(0, 1, 9, 0), 1 + 3 * Math.abs(pitch - 5));
        }
    }

    private static void born() {
        Check.begin("'BORN in a year of the cycle (0 to 99)'");
        Check.range("born", 0, 99, ARGUMENT, Kelirnight::new, (night, born) -> night.person(0, 0, 0, born, 100, false));
        Check.refusal("born 100, dies 101", ARGUMENT, Kelirnight::new, night -> night.person(0, 0, 0, 100, 101, false));
        Check.refusal("born -1, dies 0", ARGUMENT, Kelirnight::new, night -> night.person(0, 0, 0, -1, 0, false));
    }

    private static void dies() {
        Check.begin("'one in which it DIES (above BORN, 100 at most)'");
        for (int born : new int[] {0, 1, 50, 98, 99}) {
            Check.range("born " + born + ", dies", born + 1, 100, ARGUMENT, Kelirnight::new,
                    (night, dies) -> night.person(0, 0, 0, born, dies, false));
        }
    }

    private static void secretAtFirst() {
        Check.begin("'whether it knows the SECRET at first'");
        Kelirnight night = new Kelirnight();
        for (int k = 0; k < 8; k++) {
            night.person(0, 0, 0, 0, 1, k % 3 == 1);
        }
        for (int k = 0; k < 8; k++) {
            Check.truth("person " + k, night.knows(k, -1), k % 3 == 1);
        }
    }

    private static void figuresAreAtMostTwelve() {
        Check.begin("'FIGURES: at most 12, numbered from 0'");
        Kelirnight night = Nights.crowd(8);
        for (int k = 0; k < 12; k++) {
            Check.same("figures ahead", night.many(2), k);
            Check.same("number", night.figure(k % 8, 50), k);
        }
        Check.same("figures", night.many(2), 12);
        Check.refusal("the thirteenth", STATE, () -> Nights.pairs(12), full -> full.figure(0, 50));
    }

    private static void onePersonHasSeveralFigures() {
        Check.begin("'each of a PERSON (one can have several)'");
        Kelirnight night = Nights.crowd(2);
        for (int k = 0; k < 12; k++) {
            Check.same("number", night.figure(1, 10 + k), k);
        }
        for (int k = 0; k < 12; k++) {
            Check.same("person of " + k, night.ofFigure(k, 0), 1);
            Check.same("height of " + k, night.ofFigure(k, 1), 10 + k);
        }
    }

    private static void height() {
        Check.begin("'a HEIGHT (10 to 90)'");
        Check.range("height", 10, 90, ARGUMENT, () -> Nights.crowd(1), (night, height) -> night.figure(0, height));
    }

    private static void wearIsZeroAtFirst() {
        Check.begin("'WEAR (0 at first'");
        Kelirnight night = Nights.passAll(Nights.crowd(1), 60);
        night.figure(0, 50);
        Check.same("of a new figure", night.ofFigure(0, WEAR), 0);
        night.grip(0);
        Check.same("as it is gripped", night.ofFigure(0, WEAR), 0);
    }

    private static void wearIsAHundredAtMost() {
        Check.begin("'WEAR (.., 100 at most)'");
        for (int wear = 95; wear <= 104; wear++) {
            Check.same("moved by " + wear, Nights.worn(wear).ofFigure(0, WEAR), Math.min(100, wear));
        }
        Check.same("99 and 2 places", Nights.worn(101).ofFigure(0, WEAR), 100);
        int[] moved = {98, 99, 100};
        for (int wear : moved) {
            Kelirnight night = Nights.worn(wear);
            night.pass(30);
            Check.same(wear + " and the minute 30", night.ofFigure(0, WEAR), Math.min(100, wear + 1));
            night.pass(30);
            Check.same(wear + " and the minute 60", night.ofFigure(0, WEAR), 100);
        }
    }

    private static void figuresAreInTheirBoxAtFirst() {
        Check.begin("'0 in the BOX of that SIDE (at first)'");
        Kelirnight night = Nights.pairs(12);
        for (int k = 0; k < 12; k++) {
            Check.same("where " + k + " is", night.ofFigure(k, WHERE), 0);
            Check.same("place of " + k, night.ofFigure(k, PLACE), -1);
        }
        for (int place = 0; place <= 9; place++) {
            Check.same("at " + place, night.at(place), -1);
        }
        Check.same("figures on the screen", night.many(15), 0);
        Check.same("persons on the screen", night.many(7), 0);
    }

    private static void boxIsThatOfTheSide() {
        Check.begin("'in the BOX of that SIDE', where it is");
        Kelirnight night = Nights.pairs(4);
        night.grip(0);
        night.grip(1);
        Check.same("left, in the left hand", night.ofFigure(0, WHERE), 2);
        Check.same("right, in the right hand", night.ofFigure(1, WHERE), 3);
        night.plant(0);
        night.plant(1);
        Check.same("left, planted", night.ofFigure(0, WHERE), 1);
        Check.same("right, planted", night.ofFigure(1, WHERE), 1);
        Check.same("left, its place", night.ofFigure(0, PLACE), 0);
        Check.same("right, its place", night.ofFigure(1, PLACE), 9);
    }

    private static void placesAreZeroToNine() {
        Check.begin("'PLACES are 0 to 9 from left to right'");
        Check.range("at", 0, 9, INDEX, () -> Nights.pairs(2), (night, place) -> night.at(place));
        for (int place = 0; place <= 9; place++) {
            for (int figure = 0; figure <= 1; figure++) {
                Kelirnight night = Nights.pairs(2);
                Nights.stand(night, figure, place);
                Check.same("place", night.ofFigure(figure, PLACE), place);
                for (int other = 0; other <= 9; other++) {
                    Check.same("at " + other, night.at(other), other == place ? figure : -1);
                }
            }
        }
    }

    private static void aPlaceHasOneFigure() {
        Check.begin("'one has one FIGURE at most'");
        for (int place = 0; place <= 5; place++) {
            int full = place;
            Check.refusal("left onto " + place, STATE, () -> blocked(2, full), night -> night.move(2, full));
        }
        for (int place = 4; place <= 9; place++) {
            int full = place;
            Check.refusal("right onto " + place, STATE, () -> blocked(3, full), night -> night.move(3, full));
        }
        Check.refusal("from the left box", STATE, () -> standing(0), night -> night.grip(2));
        Check.refusal("from the right box", STATE, () -> standing(9), night -> night.grip(3));
    }

    /** Figure 0 stands at that place, the other one is in the hand of its side beside it. */
    private static Kelirnight blocked(int mover, int place) {
        int leftFrom = place == 3 ? 2 : 3;
        int rightFrom = place == 6 ? 7 : 6;
        Kelirnight night = Nights.pairs(4);
        Nights.stand(night, mover, mover == 2 ? leftFrom : rightFrom);
        Nights.stand(night, 0, place);
        night.grip(mover);
        return night;
    }

    private static Kelirnight standing(int place) {
        Kelirnight night = Nights.pairs(4);
        Nights.stand(night, 0, place);
        return night;
    }

    private static void aHandHasOneFigure() {
        Check.begin("'A hand has one FIGURE at most'");
        Check.refusal("a second one from the left box", STATE, () -> held(0, 3), night -> night.grip(2));
        Check.refusal("a second one from the right box", STATE, () -> held(1, 6), night -> night.grip(3));
        Check.taken("a first one from the left box", () -> held(1, 6), night -> night.grip(0));
        Check.taken("a first one from the right box", () -> held(0, 3), night -> night.grip(1));
        Check.refusal("handed into the full left one", STATE, () -> heldInBoth(1, 4), night -> night.hand(1));
        Check.refusal("handed into the full right one", STATE, () -> heldInBoth(0, 5), night -> night.hand(0));
    }

    private static Kelirnight held(int figure, int place) {
        Kelirnight night = Nights.pairs(4);
        Nights.bring(night, figure, place);
        return night;
    }

    private static Kelirnight heldInBoth(int figure, int place) {
        Kelirnight night = held(figure, place);
        night.grip(figure == 0 ? 3 : 2);
        return night;
    }

    private static void reachOfTheLeftHand() {
        Check.begin("'the LEFT one reaches the PLACES 0 to 5'");
        for (int place = 1; place <= 5; place++) {
            int to = place;
            Check.taken("left to " + place, () -> held(0, 0), night -> night.move(0, to));
        }
        Check.taken("left back to 0", () -> held(0, 5), night -> night.move(0, 0));
        for (int place = 6; place <= 9; place++) {
            int to = place;
            Check.refusal("left to " + place, STATE, () -> held(0, 0), night -> night.move(0, to));
            Check.refusal("left from 5 to " + place, STATE, () -> held(0, 5), night -> night.move(0, to));
        }
    }

    private static void reachOfTheRightHand() {
        Check.begin("'the RIGHT one 4 to 9'");
        for (int place = 4; place <= 8; place++) {
            int to = place;
            Check.taken("right to " + place, () -> held(1, 9), night -> night.move(1, to));
        }
        Check.taken("right back to 9", () -> held(1, 4), night -> night.move(1, 9));
        for (int place = 0; place <= 3; place++) {
            int to = place;
            Check.refusal("right to " + place, STATE, () -> held(1, 9), night -> night.move(1, to));
            Check.refusal("right from 4 to " + place, STATE, () -> held(1, 4), night -> night.move(1, to));
        }
    }
}
