import java.util.function.ObjIntConsumer;

/** Promises 8 to 18, what is done: the edges that each of their sentences names. */
public final class DoneEdgesTest {
    private static final Class<IllegalArgumentException> ARGUMENT = IllegalArgumentException.class;
    private static final Class<IllegalStateException> STATE = IllegalStateException.class;

    private static final int MINUTE = 0;
    private static final int MISSED = 11;
    private static final int OFFENCES = 13;
    private static final int GONGS = 14;
    private static final int FIGURES_SHOWN = 15;

    private static final int WEAR = 2;
    private static final int WHERE = 3;
    private static final int PLACE = 4;
    private static final int LIFTED = 5;
    private static final int SHADOW = 6;

    public static void main(String[] args) {
        noSuchFigure();
        theLastFigure();
        gripReturns();
        gripIfThatCanNotBe();
        moveReturns();
        movePlaces();
        moveInNoHand();
        moveIfThatCanNotBe();
        liftReturns();
        liftArguments();
        liftInNoHand();
        plantReturns();
        plantInNoHand();
        handReturns();
        handStaysLifted();
        handInNoHand();
        handIfThatCanNotBe();
        awayReturns();
        awayInNoHand();
        awayIfThatCanNotBe();
        tapReturns();
        tapArguments();
        speakReturns();
        speakOfNobody();
        speakArguments();
        speakIfThatCanNotBe();
        speakUpToTheEnd();
        jokeReturns();
        jokeArguments();
        offerReturns();
        offerAtTheEnd();
        passReturns();
        passArguments();
        passUpToTheEnd();
        Check.end();
    }

    private static void noSuchFigure() {
        noSuchFigureFor("promise 8, grip", (night, figure) -> night.grip(figure));
        noSuchFigureFor("promise 9, move", (night, figure) -> night.move(figure, 3));
        noSuchFigureFor("promise 10, lift", (night, figure) -> night.lift(figure, 3));
        noSuchFigureFor("promise 11, plant", (night, figure) -> night.plant(figure));
        noSuchFigureFor("promise 12, hand", (night, figure) -> night.hand(figure));
        noSuchFigureFor("promise 13, away", (night, figure) -> night.away(figure));
    }

    private static void noSuchFigureFor(String name, ObjIntConsumer<Kelirnight> call) {
        Check.begin(name + ": 'IndexOutOfBoundsException if there is no such FIGURE'");
        for (int figures : new int[] {0, 1, 2, 11, 12}) {
            Check.noSuch("figure", figures, () -> Nights.pairs(figures), call);
        }
    }

    private static void theLastFigure() {
        Check.begin("promises 8 to 13: the last of 12 FIGURES is one");
        Kelirnight night = Nights.pairs(12);
        Check.same("grip", night.grip(11), 3);
        Check.same("move", night.move(11, 4), 5);
        Check.same("lift", night.lift(11, 10), 50);
        Check.same("hand", night.hand(11), 2);
        Check.same("plant", night.plant(11), 4);
        night.grip(11);
        night.hand(11);
        night.move(11, 9);
        Check.same("away", night.away(11), 0);
    }

    private static Kelirnight held(int figure, int place) {
        Kelirnight night = Nights.pairs(4);
        Nights.bring(night, figure, place);
        return night;
    }

    private static Kelirnight planted(int figure, int place) {
        Kelirnight night = held(figure, place);
        night.plant(figure);
        return night;
    }

    private static void gripReturns() {
        Check.begin("promise 8: 'Returns by which hand: 2 or 3'");
        for (int figure = 0; figure <= 1; figure++) {
            Kelirnight boxed = Nights.pairs(2);
            Check.same("from its box", boxed.grip(figure), 2 + figure);
            Check.same("where it is", boxed.ofFigure(figure, WHERE), 2 + figure);
            for (int place = 0; place <= 9; place++) {
                int due = place <= 5 ? 2 : 3;
                Kelirnight night = planted(figure, place);
                Check.same("planted at " + place, night.grip(figure), due);
                Check.same("where it is", night.ofFigure(figure, WHERE), due);
            }
        }
    }

    private static void gripIfThatCanNotBe() {
        Check.begin("promise 8: 'IllegalStateException if it is in a hand, or that can not be'");
        Check.refusal("in the left hand", STATE, () -> held(0, 0), night -> night.grip(0));
        Check.refusal("in the right hand", STATE, () -> held(1, 9), night -> night.grip(1));
        Check.refusal("handed over", STATE, DoneEdgesTest::handedOver, night -> night.grip(0));
        Check.refusal("its hand is full", STATE, () -> held(0, 3), night -> night.grip(2));
        Check.refusal("its hand is full", STATE, () -> held(1, 6), night -> night.grip(3));
        Check.refusal("its place is full", STATE, () -> planted(0, 0), night -> night.grip(2));
        Check.refusal("its place is full", STATE, () -> planted(1, 9), night -> night.grip(3));
        Check.refusal("out of reach", STATE, () -> plantedBesideFullHand(3), night -> night.grip(1));
        Check.taken("in reach", () -> plantedBesideFullHand(4), night -> night.grip(1));
    }

    /** Figure 0 is in the right hand at the place 5. */
    private static Kelirnight handedOver() {
        Kelirnight night = held(0, 5);
        night.hand(0);
        return night;
    }

    private static Kelirnight plantedBesideFullHand(int place) {
        Kelirnight night = planted(1, place);
        night.grip(0);
        return night;
    }

    private static void moveReturns() {
        Check.begin("promise 9: 'Returns its WEAR then'");
        Kelirnight night = held(0, 0);
        int[] places = {1, 0, 5, 2, 3};
        int[] due = {1, 2, 7, 10, 11};
        for (int k = 0; k < places.length; k++) {
            Check.same("to " + places[k], night.move(0, places[k]), due[k]);
            Check.same("asked", night.ofFigure(0, WEAR), due[k]);
        }
        Check.same("up to 99", Nights.worn(98).move(0, 1), 99);
        Check.same("up to 100", Nights.worn(95).move(0, 0), 100);
        Check.same("beyond 100", Nights.worn(100).move(0, 5), 100);
    }

    private static void movePlaces() {
        Check.begin("promise 9: 'IllegalArgumentException if place is not 0 to 9'");
        for (int wrong : new int[] {-1, 10, 32, 36, Integer.MIN_VALUE, Integer.MAX_VALUE}) {
            Check.refusal("left to " + wrong, ARGUMENT, () -> held(0, 0), night -> night.move(0, wrong));
            Check.refusal("right to " + wrong, ARGUMENT, () -> held(1, 9), night -> night.move(1, wrong));
            Check.refusal("boxed to " + wrong, ARGUMENT, () -> held(1, 9), night -> night.move(0, wrong));
            Check.refusal("planted to " + wrong, ARGUMENT, () -> planted(0, 3), night -> night.move(0, wrong));
        }
        Check.taken("to 0", () -> held(0, 1), night -> night.move(0, 0));
        Check.taken("to 9", () -> held(1, 8), night -> night.move(1, 9));
    }

    private static void moveInNoHand() {
        Check.begin("promise 9: 'IllegalStateException if it is in no hand'");
        for (int place = 0; place <= 9; place++) {
            int to = place;
            Check.refusal("boxed to " + place, STATE, () -> Nights.pairs(2), night -> night.move(0, to));
            Check.refusal("planted to " + place, STATE, () -> planted(0, 3), night -> night.move(0, to));
            Check.refusal("planted to " + place, STATE, () -> planted(1, 6), night -> night.move(1, to));
        }
    }

    private static void moveIfThatCanNotBe() {
        Check.begin("promise 9: 'or that can not be (to its own PLACE neither)'");
        for (int place = 0; place <= 5; place++) {
            int to = place;
            Check.refusal("left, its own " + place, STATE, () -> held(0, to), night -> night.move(0, to));
        }
        for (int place = 4; place <= 9; place++) {
            int to = place;
            Check.refusal("right, its own " + place, STATE, () -> held(1, to), night -> night.move(1, to));
        }
        Check.refusal("left beyond 5", STATE, () -> held(0, 4), night -> night.move(0, 6));
        Check.refusal("right beyond 4", STATE, () -> held(1, 5), night -> night.move(1, 3));
        Check.refusal("onto another one", STATE, () -> plantedBesideFullHand(4), night -> night.move(0, 4));
        Check.taken("beside another one", () -> plantedBesideFullHand(4), night -> night.move(0, 5));
    }

    private static void liftReturns() {
        Check.begin("promise 10: 'Returns its SHADOW then'");
        int[] due = {40, 40, 41, 42, 43, 44, 45, 46, 47, 48, 50, 51, 52, 54, 55, 57};
        for (int lifted = 15; lifted >= 0; lifted--) {
            Kelirnight night = held(0, 2);
            Check.same("by " + lifted, night.lift(0, lifted), due[lifted]);
            Check.same("asked", night.ofFigure(0, SHADOW), due[lifted]);
            Check.same("lifted", night.ofFigure(0, LIFTED), lifted);
            Check.same("by 0 again", night.lift(0, 0), 40);
        }
    }

    private static void liftArguments() {
        Check.begin("promise 10: 'IllegalArgumentException if lifted is not 0 to 15'");
        Check.range("by", 0, 15, ARGUMENT, () -> held(1, 7), (night, lifted) -> night.lift(1, lifted));
        for (int wrong : new int[] {-1, 16, 50, Integer.MIN_VALUE, Integer.MAX_VALUE}) {
            Check.refusal("boxed by " + wrong, ARGUMENT, () -> Nights.pairs(2), night -> night.lift(0, wrong));
        }
    }

    private static void liftInNoHand() {
        Check.begin("promise 10: 'IllegalStateException if it is in no hand'");
        for (int lifted : new int[] {0, 1, 15}) {
            Check.refusal("boxed by " + lifted, STATE, () -> Nights.pairs(2), night -> night.lift(0, lifted));
            Check.refusal("planted by " + lifted, STATE, () -> planted(0, 0), night -> night.lift(0, lifted));
            Check.refusal("put away by " + lifted, STATE, DoneEdgesTest::putAway, night -> night.lift(0, lifted));
        }
        Check.taken("in the left hand", () -> held(0, 0), night -> night.lift(0, 0));
        Check.taken("in the right hand", () -> held(1, 9), night -> night.lift(1, 0));
    }

    private static Kelirnight putAway() {
        Kelirnight night = held(0, 0);
        night.away(0);
        return night;
    }

    private static void plantReturns() {
        Check.begin("promise 11: 'Returns its PLACE'");
        for (int figure = 0; figure <= 1; figure++) {
            for (int place = 0; place <= 9; place++) {
                Kelirnight night = held(figure, place);
                Check.same("at " + place, night.plant(figure), place);
                Check.same("asked", night.ofFigure(figure, PLACE), place);
                Check.same("planted", night.ofFigure(figure, WHERE), 1);
            }
        }
    }

    private static void plantInNoHand() {
        Check.begin("promise 11: 'IllegalStateException if it is in no hand'");
        Check.refusal("boxed", STATE, () -> held(1, 9), night -> night.plant(0));
        Check.refusal("planted", STATE, () -> planted(0, 0), night -> night.plant(0));
        Check.refusal("put away", STATE, DoneEdgesTest::putAway, night -> night.plant(0));
        Check.taken("in the left hand", () -> held(0, 0), night -> night.plant(0));
        Check.taken("in the right hand", () -> held(1, 9), night -> night.plant(1));
    }

    private static void handReturns() {
        Check.begin("promise 12: 'Returns into which hand: 2 or 3'");
        for (int place = 4; place <= 5; place++) {
            for (int figure = 0; figure <= 1; figure++) {
                Kelirnight night = held(figure, place);
                Check.same("over at " + place, night.hand(figure), 3 - figure);
                Check.same("where it is", night.ofFigure(figure, WHERE), 3 - figure);
                Check.same("back at " + place, night.hand(figure), 2 + figure);
                Check.same("where it is", night.ofFigure(figure, WHERE), 2 + figure);
                Check.same("its place", night.ofFigure(figure, PLACE), place);
            }
        }
    }

    private static void handStaysLifted() {
        Check.begin("promise 12: '(it stays LIFTED as it was)'");
        for (int lifted = 0; lifted <= 15; lifted++) {
            Kelirnight night = held(0, 4);
            night.lift(0, lifted);
            night.hand(0);
            Check.same("over", night.ofFigure(0, LIFTED), lifted);
            night.hand(0);
            Check.same("back", night.ofFigure(0, LIFTED), lifted);
        }
    }

    private static void handInNoHand() {
        Check.begin("promise 12: 'IllegalStateException if it is in no hand'");
        Check.refusal("boxed", STATE, () -> Nights.pairs(2), night -> night.hand(0));
        Check.refusal("planted at 4", STATE, () -> planted(0, 4), night -> night.hand(0));
        Check.refusal("planted at 5", STATE, () -> planted(1, 5), night -> night.hand(1));
        Check.refusal("put away", STATE, DoneEdgesTest::putAway, night -> night.hand(0));
    }

    private static void handIfThatCanNotBe() {
        Check.begin("promise 12: 'or that can not be'");
        Check.refusal("left at 3", STATE, () -> held(0, 3), night -> night.hand(0));
        Check.taken("left at 4", () -> held(0, 4), night -> night.hand(0));
        Check.taken("right at 5", () -> held(1, 5), night -> night.hand(1));
        Check.refusal("right at 6", STATE, () -> held(1, 6), night -> night.hand(1));
        Check.refusal("the right hand is full", STATE, () -> bothHeld(4, 9), night -> night.hand(0));
        Check.refusal("the left hand is full", STATE, () -> bothHeld(0, 5), night -> night.hand(1));
        Check.refusal("both at the middle", STATE, () -> bothHeld(4, 5), night -> night.hand(0));
        Check.refusal("both at the middle", STATE, () -> bothHeld(4, 5), night -> night.hand(1));
    }

    private static Kelirnight bothHeld(int left, int right) {
        Kelirnight night = held(0, left);
        Nights.bring(night, 1, right);
        return night;
    }

    private static void awayReturns() {
        Check.begin("promise 13: 'Returns how many FIGURES are on the screen then'");
        Kelirnight night = Nights.pairs(12);
        int[] standing = {0, 2, 4, 6};
        for (int k = 0; k < standing.length; k++) {
            Nights.stand(night, standing[k], 1 + k);
        }
        night.grip(8);
        Check.same("4 stand", night.away(8), 4);
        night.grip(8);
        night.grip(1);
        Check.same("4 stand, one is held", night.away(8), 5);
        Check.same("asked", night.many(FIGURES_SHOWN), 5);
        Check.same("4 stand", night.away(1), 4);
        Check.same("none stands", held(1, 9).away(1), 0);
        Check.same("one stands at the other edge", plantedBesideFullHand(9).away(0), 1);
    }

    private static void awayInNoHand() {
        Check.begin("promise 13: 'IllegalStateException if it is in no hand'");
        Check.refusal("boxed", STATE, () -> Nights.pairs(2), night -> night.away(0));
        Check.refusal("planted at 0", STATE, () -> planted(0, 0), night -> night.away(0));
        Check.refusal("planted at 9", STATE, () -> planted(1, 9), night -> night.away(1));
        Check.refusal("put away already", STATE, DoneEdgesTest::putAway, night -> night.away(0));
    }

    private static void awayIfThatCanNotBe() {
        Check.begin("promise 13: 'or that can not be'");
        Check.taken("left at 0", () -> held(0, 0), night -> night.away(0));
        Check.refusal("left at 1", STATE, () -> held(0, 1), night -> night.away(0));
        Check.refusal("left at 8", STATE, () -> held(0, 8), night -> night.away(0));
        Check.refusal("left at 9", STATE, () -> held(0, 9), night -> night.away(0));
        Check.taken("right at 9", () -> held(1, 9), night -> night.away(1));
        Check.refusal("right at 8", STATE, () -> held(1, 8), night -> night.away(1));
        Check.refusal("right at 1", STATE, () -> held(1, 1), night -> night.away(1));
        Check.refusal("right at 0", STATE, () -> held(1, 0), night -> night.away(1));
    }

    private static void tapReturns() {
        Check.begin("promise 14: 'Returns whether it is not MISSED'");
        Kelirnight night = Nights.playing(3);
        int missed = 0;
        for (int tap : new int[] {0, 1, 0, 2, 3, 0}) {
            boolean heard = night.tap(tap);
            missed += heard ? 0 : 1;
            Check.truth("tap " + tap, heard, tap != 0);
            Check.same("missed", night.many(MISSED), missed);
        }
        Check.same("no minute goes by", night.many(MINUTE), 0);
    }

    private static void tapArguments() {
        Check.begin("promise 14: 'IllegalArgumentException if tap is not 0 to 3'");
        Check.range("silent, tap", 0, 3, ARGUMENT, Nights::troupe, (night, tap) -> night.tap(tap));
        Check.range("playing, tap", 0, 3, ARGUMENT, () -> Nights.playing(3), (night, tap) -> night.tap(tap));
        Check.range("no scene, tap", 0, 3, ARGUMENT, Kelirnight::new, (night, tap) -> night.tap(tap));
    }

    private static void speakReturns() {
        Check.begin("promise 15: 'Returns TIRED then'");
        Check.same("at first", held(0, 0).speak(0, 1, 3, 1), 1 + 5);
        Check.same("up to 79", Nights.tired(78).speak(0, 1, 9, 0), 79);
        Check.same("up to 80", Nights.tired(79).speak(0, 1, 9, 0), 80);
        Check.same("up to 99", Nights.tired(71).speak(1, 0, 9, 0), 99);
        Check.same("up to 100", Nights.tired(72).speak(1, 0, 9, 0), 100);
        Check.same("beyond 100", Nights.tired(79).speak(1, 0, 9, 0), 100);
    }

    private static void speakOfNobody() {
        Check.begin("promise 15: 'IndexOutOfBoundsException if one of them is no such PERSON'");
        Check.noSuch("person", 2, () -> held(0, 0), (night, person) -> night.speak(person, 0, 1, 0));
        Check.noSuch("to", 2, () -> held(0, 0), (night, to) -> night.speak(0, to, 1, 0));
        Check.noSuch("both", 2, () -> held(0, 0), (night, person) -> night.speak(person, person, 1, 0));
        Check.noSuch("without persons", 0, Kelirnight::new, (night, person) -> night.speak(person, person, 1, 0));
        Check.noSuch("of 8, person", 8, () -> Nights.crowd(8), (night, person) -> night.speak(person, 0, 1, 0));
        Check.noSuch("of 8, to", 8, () -> Nights.crowd(8), (night, to) -> night.speak(0, to, 1, 0));
    }

    private static void speakArguments() {
        Check.begin("promise 15: 'IllegalArgumentException if both are the same, minutes is not 1 to 9, or level ..'");
        Check.refusal("the same", ARGUMENT, () -> held(0, 0), night -> night.speak(0, 0, 1, 0));
        Check.range("minutes", 1, 9, ARGUMENT, () -> held(1, 9), (night, minutes) -> night.speak(1, 0, minutes, -1));
        Check.range("level", -1, 1, ARGUMENT, () -> held(1, 9), (night, level) -> night.speak(1, 0, 9, level));
        Check.refusal("not on the screen, 0 minutes", ARGUMENT, () -> Nights.pairs(2), night -> night.speak(0, 1, 0, 0));
        Check.refusal("too tired, the same", ARGUMENT, () -> Nights.tired(80), night -> night.speak(0, 0, 1, 0));
        Check.refusal("in 540, 10 minutes", ARGUMENT, () -> Nights.passAll(held(0, 0), 540),
                night -> night.speak(0, 1, 10, 1));
    }

    private static void speakIfThatCanNotBe() {
        Check.begin("promise 15: 'IllegalStateException if the PERSON is not on the screen, TIRED is 80 or more'");
        Check.refusal("boxed", STATE, () -> held(0, 0), night -> night.speak(1, 0, 1, -1));
        Check.taken("held", () -> held(0, 0), night -> night.speak(0, 1, 1, 1));
        Check.taken("planted", () -> planted(0, 0), night -> night.speak(0, 1, 1, 1));
        Check.refusal("put away", STATE, DoneEdgesTest::putAway, night -> night.speak(0, 1, 1, 1));
        Check.taken("79", () -> Nights.tired(79), night -> night.speak(0, 1, 1, 0));
        Check.refusal("80", STATE, () -> Nights.tired(80), night -> night.speak(0, 1, 1, 0));
        Check.refusal("100", STATE, DoneEdgesTest::exhausted, night -> night.speak(0, 1, 1, 0));
    }

    private static Kelirnight exhausted() {
        Kelirnight night = Nights.tired(79);
        night.speak(1, 0, 9, 0);
        return night;
    }

    private static void speakUpToTheEnd() {
        Check.begin("promise 15: 'or the MINUTE would be above 540'");
        for (int minutes = 1; minutes <= 9; minutes++) {
            int now = minutes;
            Kelirnight night = Nights.passAll(held(0, 0), 540 - minutes);
            night.speak(0, 1, minutes, 1);
            Check.same("up to 540", night.many(MINUTE), 540);
            Check.refusal("up to 541", STATE, () -> Nights.passAll(held(0, 0), 541 - now),
                    late -> late.speak(0, 1, now, 1));
        }
    }

    private static void jokeReturns() {
        Check.begin("promise 16: 'Returns what the host BEARS then; -2, if it is an OFFENCE'");
        Kelirnight night = new Kelirnight();
        int[] jokes = {9, 9, 3, 2, 0, 1, 9};
        int[] due = {11, 2, -2, 0, 0, -2, -2};
        int[] offences = {0, 0, 1, 1, 1, 2, 3};
        for (int k = 0; k < jokes.length; k++) {
            Check.same("joke " + k, night.joke(jokes[k]), due[k]);
            Check.same("offences", night.many(OFFENCES), offences[k]);
        }
        night.offer();
        Check.same("up to 0 again", night.joke(5), 0);
    }

    private static void jokeArguments() {
        Check.begin("promise 16: 'IllegalArgumentException if joke is not 0 to 9'");
        Check.range("joke", 0, 9, ARGUMENT, Nights::troupe, (night, joke) -> night.joke(joke));
        Kelirnight night = new Kelirnight();
        night.joke(9);
        night.joke(9);
        night.joke(2);
        Check.refused("10 with 0", night, ARGUMENT, () -> night.joke(10));
        Check.refused("-1 with 0", night, ARGUMENT, () -> night.joke(-1));
    }

    private static void offerReturns() {
        Check.begin("promise 17: 'Returns what the host BEARS then'");
        Kelirnight night = new Kelirnight();
        Check.same("20", night.offer(), 25);
        night.joke(1);
        Check.same("24", night.offer(), 29);
        Check.same("29", night.offer(), 30);
        Check.same("30", night.offer(), 30);
        night.joke(4);
        Check.same("26", night.offer(), 30);
        night.joke(5);
        Check.same("25", night.offer(), 30);
    }

    private static void offerAtTheEnd() {
        Check.begin("promise 17: 'IllegalStateException if the MINUTE would be above 540'");
        Kelirnight night = Nights.passAll(Nights.troupe(), 537);
        Check.same("in 537", night.offer(), 25);
        Check.same("minute", night.many(MINUTE), 540);
        for (int minute = 538; minute <= 540; minute++) {
            int now = minute;
            Check.refusal("in " + now, STATE, () -> Nights.passAll(Nights.troupe(), now), late -> late.offer());
        }
    }

    private static void passReturns() {
        Check.begin("promise 18: 'Returns how many GONGS there were'");
        int[] cycles = {8, 16, 12, 32};
        for (int mood = 0; mood <= 3; mood++) {
            for (int minutes = 1; minutes <= 12; minutes++) {
                Kelirnight night = Nights.playing(mood);
                int due = 8 * minutes / cycles[mood];
                Check.same(minutes + " minutes of " + mood, night.pass(minutes), due);
                Check.same("ever", night.many(GONGS), due);
                int both = 8 * (minutes + 5) / cycles[mood];
                Check.same("those of this call alone", night.pass(5), both - due);
                Check.same("ever", night.many(GONGS), both);
            }
        }
        Check.same("silent", Nights.troupe().pass(99), 0);
        Check.same("99 minutes", Nights.playing(0).pass(99), 99);
    }

    private static void passArguments() {
        Check.begin("promise 18: 'IllegalArgumentException if minutes is not 1 to 99'");
        Check.range("minutes", 1, 99, ARGUMENT, Nights::troupe, (night, minutes) -> night.pass(minutes));
        for (int wrong : new int[] {0, -1, 100, Integer.MIN_VALUE, Integer.MAX_VALUE}) {
            Check.refusal("in 540, " + wrong, ARGUMENT, () -> Nights.passAll(Nights.troupe(), 540),
                    night -> night.pass(wrong));
        }
    }

    private static void passUpToTheEnd() {
        Check.begin("promise 18: 'IllegalStateException if the MINUTE would be above 540'");
        for (int minutes : new int[] {1, 2, 50, 98, 99}) {
            Kelirnight night = Nights.passAll(Nights.playing(0), 540 - minutes);
            Check.same("up to 540", night.pass(minutes), minutes);
            Check.same("minute", night.many(MINUTE), 540);
            Check.refusal("up to 541", STATE, () -> Nights.passAll(Nights.playing(0), 541 - minutes),
                    late -> late.pass(minutes));
        }
        Check.refusal("99 in 540", STATE, () -> Nights.passAll(Nights.playing(0), 540), night -> night.pass(99));
        Check.refusal("1 in 540", STATE, () -> Nights.passAll(Nights.playing(0), 540), night -> night.pass(1));
    }
}
