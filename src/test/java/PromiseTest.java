/** For each promise of the document its ordinary answers, its named edges and its wrong inputs. */
public final class PromiseTest {
    private static final Class<IllegalArgumentException> ARGUMENT = IllegalArgumentException.class;
    private static final Class<IllegalStateException> STATE = IllegalStateException.class;
    private static final Class<IndexOutOfBoundsException> INDEX = IndexOutOfBoundsException.class;

    private static final int MINUTE = 0;
    private static final int PLOT_END = 4;
    private static final int BREACHES = 5;
    private static final int ON = 6;
    private static final int SHOWN = 7;
    private static final int STRANGERS = 8;
    private static final int TIRED = 9;
    private static final int BEARS = 10;
    private static final int MISSED = 11;
    private static final int SLIPS = 12;
    private static final int OFFENCES = 13;
    private static final int GONGS = 14;
    private static final int FIGURES_SHOWN = 15;

    private static final int WEAR = 2;
    private static final int WHERE = 3;
    private static final int PLACE = 4;
    private static final int LIFTED = 5;
    private static final int SHADOW = 6;
    private static final int BLUR = 7;

    private static final int BEGINS = 6;
    private static final int PART = 7;
    private static final int BREACH = 8;

    public static void main(String[] args) {
        newObject();
        person();
        figure();
        scene();
        length();
        swap();
        lamp();
        grip();
        gripPlanted();
        move();
        lift();
        plant();
        hand();
        away();
        tap();
        tapAtTheGong();
        speak();
        speakTired();
        joke();
        offer();
        pass();
        passWearsAndRests();
        knows();
        ofFigure();
        ofScene();
        breachOfTheDead();
        breachOfTellersAndMoods();
        breachOfTheNight();
        at();
        sound();
        many();
        meanShadow();
        nextGong();
        bestSwap();
        liftFor();
        gripable();
        digest();
        Check.end();
    }

    private static void newObject() {
        Check.begin("promise 1");
        Kelirnight night = new Kelirnight();
        for (int what = 0; what <= 15; what++) {
            int due = what == ON ? -1 : what == BEARS ? 20 : 0;
            Check.same("many(" + what + ")", night.many(what), due);
        }
        for (int place = 0; place <= 9; place++) {
            Check.same("at(" + place + ")", night.at(place), -1);
        }
        for (int what = 0; what <= 3; what++) {
            Check.same("sound(" + what + ")", night.sound(what), what == 0 ? -1 : 0);
        }
        Check.same("nextGong", night.nextGong(), -1);
        Check.same("bestSwap", night.bestSwap(), -1);
        Check.same("gripable", night.gripable(), 0);
        Check.sameReal("meanShadow", night.meanShadow(), 0.0);
        Check.same("no secret is known", night.person(0, 0, 0, 0, 1, false), 0);
        Check.truth("no secret is known", night.knows(0, -1), false);
        night.figure(0, 40);
        night.grip(0);
        night.lift(0, 15);
        Check.same("no sway", night.ofFigure(0, BLUR), 3);
        Check.same("the lamp's distance", night.lamp(20, 9), 50);
    }

    private static void person() {
        Check.begin("promise 2");
        Kelirnight night = new Kelirnight();
        Check.refused("side -1", night, ARGUMENT, () -> night.person(-1, 0, 0, 0, 1, false));
        Check.refused("side 2", night, ARGUMENT, () -> night.person(2, 0, 0, 0, 1, false));
        Check.refused("rank -1", night, ARGUMENT, () -> night.person(0, -1, 0, 0, 1, false));
        Check.refused("rank 4", night, ARGUMENT, () -> night.person(0, 4, 0, 0, 1, false));
        Check.refused("pitch -1", night, ARGUMENT, () -> night.person(0, 0, -1, 0, 1, false));
        Check.refused("pitch 10", night, ARGUMENT, () -> night.person(0, 0, 10, 0, 1, false));
        Check.refused("born -1", night, ARGUMENT, () -> night.person(0, 0, 0, -1, 1, false));
        Check.refused("born 100", night, ARGUMENT, () -> night.person(0, 0, 0, 100, 100, false));
        Check.refused("dies as born", night, ARGUMENT, () -> night.person(0, 0, 0, 7, 7, false));
        Check.refused("dies 101", night, ARGUMENT, () -> night.person(0, 0, 0, 99, 101, false));
        Check.refused("dies below all", night, ARGUMENT,
                () -> night.person(0, 0, 0, 0, Integer.MIN_VALUE, false));
        for (int k = 0; k < 8; k++) {
            Check.same("number", night.person(k % 2, k % 4, k + 2, k == 0 ? 0 : 99, 100, true), k);
        }
        Check.same("persons", night.many(1), 8);
        Check.refused("the ninth", night, STATE, () -> night.person(0, 0, 0, 0, 1, false));
        Check.refused("the ninth, wrong", night, ARGUMENT, () -> night.person(9, 0, 0, 0, 1, false));
        Check.truth("the last knows", night.knows(7, -1), true);
    }

    private static void figure() {
        Check.begin("promise 3");
        Kelirnight night = Nights.cycle();
        Check.refused("no person", night, INDEX, () -> night.figure(3, 50));
        Check.refused("person -1", night, INDEX, () -> night.figure(-1, 5));
        Check.refused("height 9", night, ARGUMENT, () -> night.figure(0, 9));
        Check.refused("height 91", night, ARGUMENT, () -> night.figure(0, 91));
        for (int k = 0; k < 12; k++) {
            Check.same("number", night.figure(k % 3, k == 0 ? 10 : 90), k);
        }
        Check.same("figures", night.many(2), 12);
        Check.same("on the screen", night.many(FIGURES_SHOWN), 0);
        Check.refused("the thirteenth", night, STATE, () -> night.figure(0, 50));
        Check.refused("the thirteenth, wrong", night, ARGUMENT, () -> night.figure(0, 0));
        Check.refused("the thirteenth of nobody", night, INDEX, () -> night.figure(8, 0));
    }

    private static void scene() {
        Check.begin("promise 4");
        Kelirnight none = new Kelirnight();
        Check.refused("without persons", none, ARGUMENT, () -> none.scene(0, 0, 1, 5, -1, -1));
        Kelirnight night = Nights.cycle();
        Check.refused("year -1", night, ARGUMENT, () -> night.scene(-1, 0, 1, 5, -1, -1));
        Check.refused("year 101", night, ARGUMENT, () -> night.scene(101, 0, 1, 5, -1, -1));
        Check.refused("mood -1", night, ARGUMENT, () -> night.scene(0, -1, 1, 5, -1, -1));
        Check.refused("mood 4", night, ARGUMENT, () -> night.scene(0, 4, 1, 5, -1, -1));
        Check.refused("cast of none", night, ARGUMENT, () -> night.scene(0, 0, 0, 5, -1, -1));
        Check.refused("cast of no person", night, ARGUMENT, () -> night.scene(0, 0, 8, 5, -1, -1));
        Check.refused("cast below 0", night, ARGUMENT, () -> night.scene(0, 0, -1, 5, -1, -1));
        Check.refused("length 4", night, ARGUMENT, () -> night.scene(0, 0, 1, 4, -1, -1));
        Check.refused("length 91", night, ARGUMENT, () -> night.scene(0, 0, 1, 91, -1, -1));
        Check.refused("dies -2", night, ARGUMENT, () -> night.scene(0, 0, 1, 5, -2, -1));
        Check.refused("dies outside", night, ARGUMENT, () -> night.scene(0, 0, 5, 5, 1, -1));
        Check.refused("dies 32", night, ARGUMENT, () -> night.scene(0, 0, 1, 5, 32, -1));
        Check.refused("tells -2", night, ARGUMENT, () -> night.scene(0, 0, 1, 5, -1, -2));
        Check.refused("tells outside", night, ARGUMENT, () -> night.scene(0, 0, 5, 5, -1, 1));
        Check.refused("tells 64", night, ARGUMENT, () -> night.scene(0, 0, 1, 5, -1, 64));
        for (int k = 0; k < 10; k++) {
            Check.same("number", night.scene(k * 100 / 9, k % 4, 7, k == 0 ? 5 : 90, k % 3, 2 - k % 3), k);
        }
        Check.same("scenes", night.many(3), 10);
        Check.refused("the eleventh", night, STATE, () -> night.scene(0, 0, 1, 5, -1, -1));
        Check.refused("the eleventh, wrong", night, ARGUMENT, () -> night.scene(0, 0, 1, 5, -1, 9));
    }

    private static void length() {
        Check.begin("promise 5");
        Kelirnight night = Nights.cycle();
        night.scene(15, 0, 1, 10, -1, -1);
        night.scene(15, 0, 1, 20, -1, -1);
        Check.refused("scene 2", night, INDEX, () -> night.length(2, 5));
        Check.refused("scene -1", night, INDEX, () -> night.length(-1, 0));
        Check.refused("length 4", night, ARGUMENT, () -> night.length(0, 4));
        Check.refused("length 91", night, ARGUMENT, () -> night.length(0, 91));
        Check.same("before", night.length(0, 90), 10);
        Check.same("now", night.length(0, 10), 90);
        Check.same("the next begins", night.ofScene(1, BEGINS), 10);
        night.pass(9);
        Check.same("in its last minute", night.length(0, 12), 10);
        night.pass(3);
        Check.refused("over by now", night, STATE, () -> night.length(0, 20));
        Check.refused("over, wrong length", night, ARGUMENT, () -> night.length(0, 99));
        Check.same("the one on", night.length(1, 5), 20);
        Check.same("end of the plot", night.many(PLOT_END), 17);
        night.pass(4);
        Check.same("to its present end", night.length(1, 6), 5);
    }

    private static void swap() {
        Check.begin("promise 6");
        Kelirnight night = Nights.cycle();
        night.scene(20, 0, 3, 60, 1, -1);
        night.scene(20, 1, 2, 30, -1, -1);
        night.scene(19, 0, 4, 10, -1, 2);
        Check.refused("scene 3", night, INDEX, () -> night.swap(0, 3));
        Check.refused("scene -1", night, INDEX, () -> night.swap(-1, 0));
        Check.same("the same", night.swap(1, 1), 2);
        Check.same("nothing is changed", night.ofScene(1, 3), 30);
        Check.same("exchanged", night.swap(0, 1), 1);
        Check.same("first mood", night.ofScene(0, 1), 1);
        Check.same("second begins", night.ofScene(1, BEGINS), 30);
        Check.same("the far ones", night.swap(2, 0), 2);
        Check.same("last begins", night.ofScene(2, BEGINS), 70);
        night.pass(1);
        Check.refused("minute 1", night, STATE, () -> night.swap(0, 1));
        Check.refused("minute 1, the same", night, STATE, () -> night.swap(0, 0));
        Check.refused("minute 1, no scene", night, INDEX, () -> night.swap(0, 9));
    }

    private static void lamp() {
        Check.begin("promise 7");
        Kelirnight night = Nights.troupe();
        Check.refused("distance 19", night, ARGUMENT, () -> night.lamp(19, 0));
        Check.refused("distance 81", night, ARGUMENT, () -> night.lamp(81, 0));
        Check.refused("sway -1", night, ARGUMENT, () -> night.lamp(50, -1));
        Check.refused("sway 10", night, ARGUMENT, () -> night.lamp(50, 10));
        Check.same("at first", night.lamp(20, 9), 50);
        Check.same("then", night.lamp(80, 3), 20);
        Check.same("then", night.lamp(20, 0), 80);
        night.grip(0);
        night.lift(0, 15);
        Check.same("shadow", night.ofFigure(0, SHADOW), 160);
        Check.same("blur without sway", night.ofFigure(0, BLUR), 3);
        night.lamp(80, 9);
        Check.same("shadow", night.ofFigure(0, SHADOW), 49);
        Check.same("blur", night.ofFigure(0, BLUR), 37);
    }

    private static void grip() {
        Check.begin("promise 8");
        Kelirnight night = Nights.troupe();
        Check.refused("figure 4", night, INDEX, () -> night.grip(4));
        Check.refused("figure -1", night, INDEX, () -> night.grip(-1));
        Check.same("left from its box", night.grip(0), 2);
        Check.same("its place", night.ofFigure(0, PLACE), 0);
        Check.refused("in a hand", night, STATE, () -> night.grip(0));
        Check.refused("the hand is full", night, STATE, () -> night.grip(2));
        Check.same("right from its box", night.grip(1), 3);
        Check.same("its place", night.ofFigure(1, PLACE), 9);
        night.plant(0);
        Check.refused("the place is full", night, STATE, () -> night.grip(2));
        Check.same("planted", night.grip(0), 2);
        Check.same("where it was", night.ofFigure(0, PLACE), 0);
        night.away(0);
        Check.same("the place is free", night.grip(2), 2);
    }

    private static void gripPlanted() {
        Check.begin("promise 8, planted");
        Kelirnight night = Nights.troupe();
        night.grip(0);
        night.move(0, 4);
        night.plant(0);
        night.grip(1);
        night.move(1, 6);
        night.plant(1);
        Check.same("both reach: the left one", night.grip(0), 2);
        night.plant(0);
        Check.same("only the right one reaches", night.grip(1), 3);
        Check.same("the right one is full", night.grip(0), 2);
        night.plant(0);
        night.plant(1);
        night.grip(3);
        Check.same("the left one is full", night.grip(0), 3);
        Check.refused("neither is free", night, STATE, () -> night.grip(1));
        night.plant(0);
        night.grip(1);
        night.move(3, 3);
        night.plant(3);
        night.grip(0);
        Check.refused("the left one is full", night, STATE, () -> night.grip(3));
        night.plant(0);
        night.plant(1);
        night.grip(0);
        Check.refused("place 3 is the left one's", night, STATE, () -> night.grip(3));
    }

    private static void move() {
        Check.begin("promise 9");
        Kelirnight night = Nights.troupe();
        Check.refused("figure 4", night, INDEX, () -> night.move(4, 10));
        Check.refused("place -1", night, ARGUMENT, () -> night.move(0, -1));
        Check.refused("place 10", night, ARGUMENT, () -> night.move(0, 10));
        Check.refused("in its box", night, STATE, () -> night.move(0, 1));
        night.grip(0);
        night.grip(1);
        Check.refused("its own place", night, STATE, () -> night.move(0, 0));
        Check.refused("left to 6", night, STATE, () -> night.move(0, 6));
        Check.refused("right to 3", night, STATE, () -> night.move(1, 3));
        night.lift(0, 7);
        Check.same("wear by 5", night.move(0, 5), 5);
        Check.same("still lifted", night.ofFigure(0, LIFTED), 7);
        Check.refused("a place with a figure", night, STATE, () -> night.move(1, 5));
        Check.same("past another", night.move(1, 4), 5);
        Check.same("back", night.move(0, 3), 7);
        night.plant(0);
        Check.refused("planted", night, STATE, () -> night.move(0, 2));
        for (int k = 0; k < 10; k++) {
            night.move(1, 9);
            night.move(1, 4);
        }
        Check.same("wear is 100 at most", night.ofFigure(1, WEAR), 100);
        Check.same("wear stays 100", night.move(1, 5), 100);
    }

    private static void lift() {
        Check.begin("promise 10");
        Kelirnight night = Nights.troupe();
        Check.refused("figure 4", night, INDEX, () -> night.lift(4, 16));
        Check.refused("lifted -1", night, ARGUMENT, () -> night.lift(0, -1));
        Check.refused("lifted 16", night, ARGUMENT, () -> night.lift(0, 16));
        Check.refused("in its box", night, STATE, () -> night.lift(0, 1));
        night.grip(0);
        Check.same("by 15", night.lift(0, 15), 57);
        Check.same("lifted", night.ofFigure(0, LIFTED), 15);
        Check.same("by 0", night.lift(0, 0), 40);
        night.plant(0);
        Check.refused("planted", night, STATE, () -> night.lift(0, 1));
    }

    private static void plant() {
        Check.begin("promise 11");
        Kelirnight night = Nights.troupe();
        Check.refused("figure -1", night, INDEX, () -> night.plant(-1));
        Check.refused("figure 4", night, INDEX, () -> night.plant(4));
        Check.refused("in its box", night, STATE, () -> night.plant(1));
        night.grip(1);
        night.lift(1, 9);
        night.move(1, 7);
        Check.same("its place", night.plant(1), 7);
        Check.same("planted", night.ofFigure(1, WHERE), 1);
        Check.same("stays", night.ofFigure(1, PLACE), 7);
        Check.same("not lifted", night.ofFigure(1, LIFTED), 0);
        Check.refused("planted already", night, STATE, () -> night.plant(1));
        Check.same("gripped again", night.grip(1), 3);
        Check.same("lifted by 0", night.ofFigure(1, LIFTED), 0);
    }

    private static void hand() {
        Check.begin("promise 12");
        Kelirnight night = Nights.troupe();
        Check.refused("figure 4", night, INDEX, () -> night.hand(4));
        Check.refused("figure -1", night, INDEX, () -> night.hand(-1));
        Check.refused("in its box", night, STATE, () -> night.hand(0));
        night.grip(0);
        night.move(0, 3);
        Check.refused("right does not reach 3", night, STATE, () -> night.hand(0));
        night.move(0, 4);
        night.lift(0, 6);
        Check.same("to the right one", night.hand(0), 3);
        Check.same("still lifted", night.ofFigure(0, LIFTED), 6);
        Check.same("where it was", night.ofFigure(0, PLACE), 4);
        Check.same("worn by its moves alone", night.ofFigure(0, WEAR), 4);
        night.move(0, 6);
        Check.refused("left does not reach 6", night, STATE, () -> night.hand(0));
        night.move(0, 5);
        night.grip(2);
        Check.refused("the left one is full", night, STATE, () -> night.hand(0));
        night.plant(2);
        Check.same("to the left one", night.hand(0), 2);
        night.plant(0);
        Check.refused("planted", night, STATE, () -> night.hand(0));
    }

    private static void away() {
        Check.begin("promise 13");
        Kelirnight night = Nights.troupe();
        Check.refused("figure 4", night, INDEX, () -> night.away(4));
        Check.refused("figure -1", night, INDEX, () -> night.away(-1));
        Check.refused("in its box", night, STATE, () -> night.away(0));
        night.grip(0);
        night.grip(1);
        night.move(0, 1);
        Check.refused("from 1", night, STATE, () -> night.away(0));
        night.move(0, 0);
        night.lift(0, 3);
        Check.same("one is left", night.away(0), 1);
        Check.same("in its box", night.ofFigure(0, WHERE), 0);
        Check.same("at no place", night.ofFigure(0, PLACE), -1);
        Check.same("not lifted", night.ofFigure(0, LIFTED), 0);
        Check.same("the wear stays", night.ofFigure(0, WEAR), 2);
        night.move(1, 8);
        Check.refused("from 8", night, STATE, () -> night.away(1));
        night.move(1, 9);
        night.plant(1);
        Check.refused("planted", night, STATE, () -> night.away(1));
        night.grip(1);
        Check.same("none is left", night.away(1), 0);
        night.grip(1);
        night.move(1, 5);
        night.hand(1);
        night.move(1, 0);
        Check.refused("one of the right from 0", night, STATE, () -> night.away(1));
    }

    private static void tap() {
        Check.begin("promise 14");
        Kelirnight night = Nights.cycle();
        Check.refused("tap -1", night, ARGUMENT, () -> night.tap(-1));
        Check.refused("tap 4", night, ARGUMENT, () -> night.tap(4));
        Check.truth("no scene is on", night.tap(0), false);
        Check.truth("faster while silent", night.tap(1), false);
        Check.truth("slower while silent", night.tap(2), false);
        Check.truth("stop while silent", night.tap(3), false);
        Check.same("missed", night.many(MISSED), 4);
        night.scene(15, 1, 1, 5, -1, -1);
        night.scene(15, 2, 1, 5, -1, -1);
        night.pass(5);
        Check.truth("begin", night.tap(0), true);
        Check.same("mood of the scene that is on", night.sound(0), 2);
        Check.same("speed", night.sound(1), 1);
        Check.same("beat", night.sound(2), 0);
        Check.truth("begin while it plays", night.tap(0), false);
        Check.same("missed", night.many(MISSED), 5);
        Check.truth("faster", night.tap(1), true);
        Check.same("waits", night.sound(3), 1);
        Check.truth("stop in its place", night.tap(3), true);
        Check.same("waits", night.sound(3), 3);
        Check.same("the speed is as it was", night.sound(1), 1);
        night.pass(5);
        Check.truth("behind the plot", night.tap(0), false);
    }

    private static void tapAtTheGong() {
        Check.begin("promise 14, at the gong");
        Kelirnight night = Nights.playing(3);
        night.tap(1);
        night.pass(3);
        Check.same("beat", night.sound(2), 24);
        Check.same("still slow", night.sound(1), 1);
        night.pass(1);
        Check.same("faster at the gong", night.sound(1), 2);
        Check.same("nothing waits", night.sound(3), 0);
        night.tap(1);
        night.pass(2);
        Check.same("faster again", night.sound(1), 3);
        night.tap(1);
        night.pass(2);
        Check.same("not above 3", night.sound(1), 3);
        Check.same("done all the same", night.sound(3), 0);
        Check.same("by the speed as the minute begins", night.sound(2), 16);
        night.tap(2);
        night.pass(1);
        Check.same("slower", night.sound(1), 2);
        Check.same("its beats are done", night.sound(2), 8);
        night.tap(2);
        night.pass(2);
        night.tap(2);
        night.pass(4);
        Check.same("not below 1", night.sound(1), 1);
        night.tap(3);
        night.pass(4);
        Check.same("silent", night.sound(0), -1);
        Check.same("no speed", night.sound(1), 0);
        Check.same("no beat", night.sound(2), 0);
        Check.truth("begin anew", night.tap(0), true);
        Check.same("slow again", night.sound(1), 1);
        Check.same("at the first beat", night.sound(2), 0);
    }

    private static void speak() {
        Check.begin("promise 15");
        Kelirnight night = Nights.troupe();
        Check.refused("person 3", night, INDEX, () -> night.speak(3, 0, 0, 0));
        Check.refused("to 3", night, INDEX, () -> night.speak(0, 3, 0, 0));
        Check.refused("person -1", night, INDEX, () -> night.speak(-1, 0, 1, 0));
        Check.refused("to -1", night, INDEX, () -> night.speak(0, -1, 1, 0));
        Check.refused("to itself", night, ARGUMENT, () -> night.speak(0, 0, 1, 0));
        Check.refused("0 minutes", night, ARGUMENT, () -> night.speak(0, 1, 0, 0));
        Check.refused("10 minutes", night, ARGUMENT, () -> night.speak(0, 1, 10, 0));
        Check.refused("level -2", night, ARGUMENT, () -> night.speak(0, 1, 1, -2));
        Check.refused("level 2", night, ARGUMENT, () -> night.speak(0, 1, 1, 2));
        Check.refused("not on the screen", night, STATE, () -> night.speak(0, 1, 1, 0));
        night.grip(2);
        night.grip(1);
        Check.same("pitch 5 at first", night.speak(0, 1, 9, 1), 1);
        Check.same("no slip upwards", night.many(SLIPS), 0);
        Check.same("the minutes go by", night.many(MINUTE), 9);
        Check.same("4 of pitch for 4 minutes", night.speak(1, 2, 4, -1), 1 + 1 + 5);
        Check.same("no slip downwards", night.many(SLIPS), 0);
        Check.same("its own pitch", night.speak(1, 0, 9, 0), 8);
        Check.same("a slip downwards", night.many(SLIPS), 1);
        Check.same("back down by 4", night.speak(0, 2, 2, 0), 8 + 1 + 2);
        Check.same("no slip among equals", night.many(SLIPS), 1);
        night.speak(0, 2, 1, 1);
        night.speak(0, 1, 1, -1);
        Check.same("slips", night.many(SLIPS), 3);
        Check.same("tired by 1 each", night.many(TIRED), 13);
        night.away(2);
        Check.refused("away", night, STATE, () -> night.speak(0, 1, 1, 1));
    }

    private static void speakTired() {
        Check.begin("promise 15, tired");
        Kelirnight night = Nights.troupe();
        night.grip(1);
        night.grip(3);
        Check.same("9 and 5", night.speak(1, 0, 9, -1), 13);
        Check.same("0 and 9", night.speak(2, 0, 9, 0), 41);
        Check.same("9 and 0", night.speak(1, 0, 9, -1), 69);
        night.offer();
        night.offer();
        Check.same("rested", night.many(TIRED), 63);
        Check.same("0 and 9", night.speak(2, 0, 5, 0), 79);
        Check.same("79 will do, 100 at most", night.speak(1, 0, 9, -1), 100);
        night.pass(20);
        Check.refused("80 is too tired", night, STATE, () -> night.speak(1, 0, 1, -1));
        night.pass(1);
        Check.same("79 again", night.speak(1, 0, 1, -1), 80);
        Kelirnight late = Nights.troupe();
        late.grip(1);
        Nights.passAll(late, 535);
        Check.refused("beyond 540", late, STATE, () -> late.speak(1, 0, 6, -1));
        Check.same("up to 540", late.speak(1, 0, 5, -1), 7);
        Check.same("minute", late.many(MINUTE), 540);
        Check.refused("no minute left", late, STATE, () -> late.speak(1, 0, 1, -1));
    }

    private static void joke() {
        Check.begin("promise 16");
        Kelirnight night = new Kelirnight();
        Check.refused("joke -1", night, ARGUMENT, () -> night.joke(-1));
        Check.refused("joke 10", night, ARGUMENT, () -> night.joke(10));
        Check.same("of 0", night.joke(0), 20);
        Check.same("of 9", night.joke(9), 11);
        Check.same("of 9", night.joke(9), 2);
        Check.same("an offence", night.joke(3), -2);
        Check.same("offences", night.many(OFFENCES), 1);
        Check.same("it stays", night.many(BEARS), 2);
        Check.same("down to 0", night.joke(2), 0);
        Check.same("of 0 is none", night.joke(0), 0);
        Check.same("an offence", night.joke(1), -2);
        Check.same("offences", night.many(OFFENCES), 2);
        Check.same("no minute goes by", night.many(MINUTE), 0);
    }

    private static void offer() {
        Check.begin("promise 17");
        Kelirnight night = Nights.playing(0);
        Check.same("5 more", night.offer(), 25);
        Check.same("3 minutes", night.many(MINUTE), 3);
        Check.same("the orchestra plays", night.many(GONGS), 3);
        Check.same("to 30", night.offer(), 30);
        Check.same("30 at most", night.offer(), 30);
        night.joke(2);
        Check.same("30 at most", night.offer(), 30);
        Nights.passAll(night, 525);
        Check.same("minute", night.many(MINUTE), 537);
        night.joke(9);
        Check.same("up to 540", night.offer(), 26);
        Check.refused("beyond 540", night, STATE, night::offer);
        Kelirnight late = new Kelirnight();
        Nights.passAll(late, 538);
        Check.refused("2 minutes are left", late, STATE, late::offer);
    }

    private static void pass() {
        Check.begin("promise 18");
        Kelirnight night = Nights.playing(2);
        Check.refused("0 minutes", night, ARGUMENT, () -> night.pass(0));
        Check.refused("100 minutes", night, ARGUMENT, () -> night.pass(100));
        Check.refused("below 0", night, ARGUMENT, () -> night.pass(Integer.MIN_VALUE));
        Check.refused("the most", night, ARGUMENT, () -> night.pass(Integer.MAX_VALUE));
        Check.same("no gong", night.pass(1), 0);
        Check.same("a gong", night.pass(1), 1);
        Check.same("99 minutes", night.pass(99), 66);
        Check.same("gongs ever", night.many(GONGS), 67);
        Nights.passAll(night, 430);
        Check.refused("10 beyond", night, STATE, () -> night.pass(10));
        Check.same("up to 540", night.pass(9), 6);
        Check.refused("no minute left", night, STATE, () -> night.pass(1));
        Check.refused("no minute left, wrong", night, ARGUMENT, () -> night.pass(100));
        Kelirnight fast = Nights.playing(0);
        fast.tap(1);
        Check.same("1 at speed 1", fast.pass(1), 1);
        Check.same("2 at speed 2", fast.pass(1), 2);
        fast.tap(3);
        Check.same("the last beats are not played", fast.pass(2), 1);
        Check.same("silent", fast.pass(9), 0);
    }

    private static void passWearsAndRests() {
        Check.begin("promise 18, wear and rest");
        Kelirnight night = Nights.troupe();
        night.grip(0);
        night.move(0, 1);
        night.plant(0);
        night.grip(1);
        night.speak(1, 0, 9, -1);
        Check.same("tired", night.many(TIRED), 13);
        night.pass(10);
        Check.same("rested by 10", night.many(TIRED), 3);
        night.pass(10);
        Check.same("0 at least", night.many(TIRED), 0);
        Check.same("minute 29: planted", night.ofFigure(0, WEAR), 1);
        night.pass(1);
        Check.same("minute 30: planted", night.ofFigure(0, WEAR), 2);
        Check.same("minute 30: in a hand", night.ofFigure(1, WEAR), 1);
        Check.same("minute 30: in its box", night.ofFigure(2, WEAR), 0);
        night.pass(59);
        Check.same("minute 89", night.ofFigure(0, WEAR), 3);
        night.offer();
        Check.same("minute 92", night.ofFigure(0, WEAR), 4);
        night.pass(25);
        night.speak(1, 0, 9, -1);
        Check.same("as one speaks", night.ofFigure(1, WEAR), 4);
        for (int k = 0; k < 24; k++) {
            night.move(1, k % 2 == 0 ? 5 : 9);
        }
        Nights.passAll(night, 54);
        Check.same("100 at most", night.ofFigure(1, WEAR), 100);
    }

    private static void knows() {
        Check.begin("promise 19");
        Kelirnight night = Nights.cycle();
        Check.truth("0 at first", night.knows(0, -1), true);
        Check.truth("1 at first", night.knows(1, -1), false);
        Check.refused("person 3", night, INDEX, () -> night.knows(3, -1));
        Check.refused("person -1", night, INDEX, () -> night.knows(-1, -1));
        Check.refused("scene -2", night, INDEX, () -> night.knows(0, -2));
        Check.refused("scene 0 of none", night, INDEX, () -> night.knows(0, 0));
        night.scene(15, 0, 6, 5, -1, 1);
        night.scene(15, 0, 3, 5, -1, 0);
        night.scene(15, 0, 6, 5, -1, -1);
        night.scene(15, 0, 6, 5, -1, 1);
        Check.refused("scene 4", night, INDEX, () -> night.knows(0, 4));
        Check.truth("who does not know tells nothing", night.knows(2, 0), false);
        Check.truth("not ahead of it", night.knows(1, 0), false);
        Check.truth("behind it", night.knows(1, 1), true);
        Check.truth("not of the cast", night.knows(2, 1), false);
        Check.truth("without a teller", night.knows(2, 2), false);
        Check.truth("told on", night.knows(2, 3), true);
        Check.truth("still at first", night.knows(2, -1), false);
        Check.truth("0 knows behind all", night.knows(0, 3), true);
        night.swap(1, 3);
        Check.truth("1 does not know in the new order", night.knows(2, 3), false);
        night.person(0, 0, 0, 0, 1, true);
        Check.truth("one told later", night.knows(3, 0), true);
        night.swap(0, 2);
        night.swap(0, 3);
        Check.truth("behind the first scene", night.knows(1, 0), true);
        Check.truth("ahead of it", night.knows(1, -1), false);
    }

    private static void ofFigure() {
        Check.begin("promise 20");
        Kelirnight night = Nights.troupe();
        Check.refused("figure 4", night, INDEX, () -> night.ofFigure(4, 8));
        Check.refused("figure -1", night, INDEX, () -> night.ofFigure(-1, 0));
        Check.refused("what -1", night, ARGUMENT, () -> night.ofFigure(0, -1));
        Check.refused("what 8", night, ARGUMENT, () -> night.ofFigure(0, 8));
        int[] boxed = {0, 25, 0, 0, -1, 0, 25, 0};
        compareFigure(night, 2, boxed);
        night.lamp(47, 6);
        night.grip(3);
        night.move(3, 5);
        night.move(3, 0);
        night.lift(3, 11);
        int[] held = {2, 90, 10, 2, 0, 11, 117, 19 + 1};
        compareFigure(night, 3, held);
        night.move(3, 5);
        night.hand(3);
        int[] handed = {2, 90, 15, 3, 5, 11, 117, 19 + 1};
        compareFigure(night, 3, handed);
        night.plant(3);
        int[] planted = {2, 90, 15, 1, 5, 0, 90, 1};
        compareFigure(night, 3, planted);
    }

    private static void compareFigure(Kelirnight night, int figure, int[] due) {
        for (int what = 0; what < due.length; what++) {
            Check.same("ofFigure(" + figure + ", " + what + ")", night.ofFigure(figure, what), due[what]);
        }
    }

    private static void ofScene() {
        Check.begin("promise 21");
        Kelirnight night = Nights.cycle();
        night.scene(15, 1, 3, 90, 0, 1);
        night.scene(0, 0, 5, 89, -1, 0);
        night.scene(50, 1, 5, 90, 0, -1);
        Check.refused("scene 3", night, INDEX, () -> night.ofScene(3, 9));
        Check.refused("scene -1", night, INDEX, () -> night.ofScene(-1, 0));
        Check.refused("what -1", night, ARGUMENT, () -> night.ofScene(0, -1));
        Check.refused("what 9", night, ARGUMENT, () -> night.ofScene(0, 9));
        compareScene(night, 0, new int[] {15, 1, 3, 90, 0, 1, 0, 0, 2});
        compareScene(night, 1, new int[] {0, 0, 5, 89, -1, 0, 90, 0, 0});
        compareScene(night, 2, new int[] {50, 1, 5, 90, 0, -1, 179, 0, 1});
        night.length(1, 90);
        Check.same("part 1 from 180", night.ofScene(2, PART), 1);
        for (int k = 0; k < 7; k++) {
            night.scene(50, 0, 4, 90, -1, -1);
        }
        Check.same("part 1 up to 359", night.ofScene(3, PART), 1);
        Check.same("part 2 from 360", night.ofScene(4, PART), 2);
        Check.same("part 2 at most", night.ofScene(9, PART), 2);
        Check.same("begins far behind", night.ofScene(9, BEGINS), 810);
    }

    private static void compareScene(Kelirnight night, int scene, int[] due) {
        for (int what = 0; what < due.length; what++) {
            Check.same("ofScene(" + scene + ", " + what + ")", night.ofScene(scene, what), due[what]);
        }
    }

    private static int breachOfOne(int year, int cast, int dies, int tells) {
        Kelirnight night = Nights.cycle();
        night.scene(year, 0, cast, 5, dies, tells);
        return night.ofScene(0, BREACH);
    }

    private static void breachOfTheDead() {
        Check.begin("promise 21, breaches 1 and 2");
        Check.same("not yet born", breachOfOne(9, 2, -1, -1), 1);
        Check.same("just born", breachOfOne(10, 2, -1, -1), 0);
        Check.same("in its last year", breachOfOne(20, 2, -1, -1), 0);
        Check.same("dead by the cycle", breachOfOne(21, 2, -1, -1), 1);
        Check.same("not of the cast", breachOfOne(21, 4, -1, -1), 0);
        Check.same("dies in its year", breachOfOne(20, 7, 1, -1), 0);
        Check.same("dies too early", breachOfOne(19, 7, 1, -1), 2);
        Check.same("1 ahead of 2", breachOfOne(9, 7, 0, -1), 1);
        Check.same("2 ahead of 3", breachOfOne(19, 7, 0, 1), 2);
        Kelirnight night = Nights.cycle();
        night.scene(19, 0, 3, 5, 1, -1);
        night.scene(18, 0, 2, 5, -1, -1);
        night.scene(19, 0, 3, 5, -1, -1);
        night.scene(20, 0, 3, 5, 1, 1);
        night.scene(20, 0, 1, 5, -1, -1);
        int[] due = {2, 0, 1, 1, 0};
        for (int k = 0; k < due.length; k++) {
            Check.same("breach of " + k, night.ofScene(k, BREACH), due[k]);
        }
        Check.same("scenes with a breach", night.many(BREACHES), 3);
    }

    private static void breachOfTellersAndMoods() {
        Check.begin("promise 21, breaches 3 and 4");
        Check.same("who knows", breachOfOne(15, 3, -1, 0), 0);
        Check.same("who does not know", breachOfOne(15, 3, -1, 1), 3);
        Kelirnight night = Nights.cycle();
        night.scene(15, 2, 2, 90, -1, 1);
        night.scene(15, 2, 2, 90, -1, -1);
        night.scene(15, 2, 2, 90, -1, -1);
        night.scene(15, 3, 2, 90, -1, -1);
        night.scene(15, 3, 2, 90, -1, -1);
        int[] due = {3, 4, 0, 4, 0};
        for (int k = 0; k < due.length; k++) {
            Check.same("breach of " + k, night.ofScene(k, BREACH), due[k]);
        }
        Kelirnight calm = Nights.cycle();
        calm.scene(15, 0, 2, 5, -1, -1);
        calm.scene(15, 1, 2, 5, -1, -1);
        calm.scene(15, 3, 2, 5, -1, -1);
        Check.same("in part 0", calm.many(BREACHES), 1);
    }

    private static void breachOfTheNight() {
        Check.begin("promise 21, breach 5");
        Kelirnight night = Nights.cycle();
        for (int k = 0; k < 6; k++) {
            night.scene(15, 0, 2, 90, -1, -1);
        }
        Check.same("over at 540", night.ofScene(5, BREACH), 0);
        night.scene(15, 3, 2, 5, -1, -1);
        Check.same("begins at 540", night.ofScene(6, BREACH), 5);
        night.length(0, 85);
        Check.same("shortened", night.ofScene(6, BREACH), 0);
        night.length(6, 6);
        Check.same("over at 541", night.ofScene(6, BREACH), 5);
    }

    private static void at() {
        Check.begin("promise 22");
        Kelirnight night = Nights.troupe();
        Check.refused("place -1", night, INDEX, () -> night.at(-1));
        Check.refused("place 10", night, INDEX, () -> night.at(10));
        night.grip(0);
        night.grip(1);
        Check.same("at 0", night.at(0), 0);
        Check.same("at 9", night.at(9), 1);
        night.move(0, 3);
        Check.same("left", night.at(0), -1);
        Check.same("come", night.at(3), 0);
        night.plant(0);
        Check.same("planted", night.at(3), 0);
        night.away(1);
        Check.same("put away", night.at(9), -1);
    }

    private static void sound() {
        Check.begin("promise 23");
        int[] cycles = {8, 16, 12, 32};
        for (int mood = 0; mood < 4; mood++) {
            Kelirnight night = Nights.playing(mood);
            Check.same("mood", night.sound(0), mood);
            Check.same("speed", night.sound(1), 1);
            Check.same("beat", night.sound(2), 0);
            Check.same("waits", night.sound(3), 0);
            for (int minutes = 1; minutes <= 9; minutes++) {
                night.pass(1);
                Check.same("beat of mood " + mood, night.sound(2), 8 * minutes % cycles[mood]);
            }
            Check.same("gongs", night.many(GONGS), 72 / cycles[mood]);
        }
        Kelirnight night = Nights.playing(3);
        Check.refused("what -1", night, ARGUMENT, () -> night.sound(-1));
        Check.refused("what 4", night, ARGUMENT, () -> night.sound(4));
        night.tap(3);
        night.pass(3);
        Check.same("waits", night.sound(3), 3);
        night.pass(1);
        int[] silent = {-1, 0, 0, 0};
        for (int what = 0; what < 4; what++) {
            Check.same("sound(" + what + ")", night.sound(what), silent[what]);
        }
    }

    private static void many() {
        Check.begin("promise 24");
        Kelirnight night = Nights.troupe();
        Check.refused("what -1", night, ARGUMENT, () -> night.many(-1));
        Check.refused("what 16", night, ARGUMENT, () -> night.many(16));
        night.scene(15, 3, 4, 10, -1, 2);
        night.grip(0);
        night.move(0, 1);
        night.plant(0);
        night.grip(3);
        night.grip(1);
        night.tap(1);
        night.tap(0);
        Check.same("strangers of the first", night.many(STRANGERS), 4);
        night.speak(1, 0, 6, 1);
        night.joke(9);
        night.joke(9);
        night.joke(9);
        int[] due = {6, 3, 4, 2, 100, 1, 0, 7, 4, 9, 2, 1, 1, 1, 6, 3};
        for (int what = 0; what < due.length; what++) {
            Check.same("many(" + what + ")", night.many(what), due[what]);
        }
        night.pass(83);
        Check.same("on up to its last minute", night.many(ON), 0);
        night.pass(1);
        Check.same("on", night.many(ON), 1);
        Check.same("strangers of the next", night.many(STRANGERS), 3);
        night.pass(9);
        Check.same("on", night.many(ON), 1);
        night.pass(1);
        Check.same("none is on", night.many(ON), -1);
        Check.same("all are strangers", night.many(STRANGERS), 7);
        night.away(3);
        Check.same("on the screen", night.many(SHOWN), 3);
        Check.same("figures on the screen", night.many(FIGURES_SHOWN), 2);
    }

    private static void meanShadow() {
        Check.begin("promise 25");
        Kelirnight night = Nights.troupe();
        Check.sameReal("none", night.meanShadow(), 0.0);
        night.grip(0);
        Check.sameReal("one", night.meanShadow(), 40.0);
        night.lift(0, 15);
        night.grip(1);
        Check.sameReal("not cut", night.meanShadow(), 117 / 2.0);
        night.move(0, 2);
        night.plant(0);
        night.grip(2);
        night.lift(2, 1);
        Check.sameReal("whole shadows", night.meanShadow(), (40 + 60 + 25) / 3.0);
        night.lift(2, 2);
        Check.sameReal("whole shadows", night.meanShadow(), 126 / 3.0);
    }

    private static void nextGong() {
        Check.begin("promise 26");
        int[] due = {1, 2, 2, 4};
        for (int mood = 0; mood < 4; mood++) {
            Check.same("mood " + mood, Nights.playing(mood).nextGong(), due[mood]);
        }
        Kelirnight night = Nights.playing(2);
        night.pass(1);
        Check.same("4 beats are left", night.nextGong(), 1);
        night.pass(1);
        Check.same("8 beats are left", night.nextGong(), 1);
        night.tap(1);
        night.pass(1);
        Check.same("12 beats at speed 2", night.nextGong(), 1);
        Kelirnight wild = Nights.playing(3);
        wild.tap(1);
        wild.pass(4);
        Check.same("32 beats at speed 2", wild.nextGong(), 2);
        wild.tap(1);
        wild.pass(2);
        Check.same("32 beats at speed 3", wild.nextGong(), 2);
        wild.tap(3);
        wild.pass(2);
        Check.same("silent", wild.nextGong(), -1);
        Kelirnight late = Nights.playing(3);
        Nights.passAll(late, 540);
        Check.same("behind 540", late.nextGong(), 4);
    }

    private static void bestSwap() {
        Check.begin("promise 27");
        Kelirnight night = Nights.cycle();
        night.scene(15, 0, 2, 20, -1, -1);
        Check.same("one scene", night.bestSwap(), -1);
        night.scene(15, 0, 6, 20, -1, 1);
        Check.same("none makes them fewer", night.bestSwap(), -1);
        night.scene(15, 0, 3, 20, -1, 0);
        long before = night.digest();
        Check.same("of 2 and 12 the smaller", night.bestSwap(), 2);
        Check.truth("nothing is changed", night.digest() == before, true);
        night.pass(1);
        Check.same("whatever the minute is", night.bestSwap(), 2);
        Kelirnight later = Nights.cycle();
        later.scene(15, 0, 5, 20, -1, 0);
        later.scene(15, 0, 2, 20, -1, 1);
        later.scene(15, 0, 4, 20, -1, 2);
        later.scene(15, 0, 3, 20, -1, 0);
        Check.same("13 alone leaves none", later.bestSwap(), 13);
        Kelirnight next = Nights.cycle();
        next.scene(15, 0, 6, 20, -1, 1);
        next.scene(15, 0, 3, 20, -1, 0);
        Check.same("neighbours", next.bestSwap(), 1);
        Kelirnight two = Nights.cycle();
        two.scene(15, 0, 6, 20, -1, 1);
        two.scene(15, 0, 6, 20, -1, 2);
        two.scene(15, 0, 4, 20, -1, -1);
        two.scene(15, 0, 7, 20, -1, 0);
        Check.same("the fewest, the smallest number", two.bestSwap(), 3);
        two.swap(0, 3);
        Check.same("it is so", two.many(BREACHES), 0);
        Check.same("no fewer than 0", two.bestSwap(), -1);
    }

    private static void liftFor() {
        Check.begin("promise 28");
        Kelirnight night = Nights.troupe();
        Check.refused("figure 4", night, INDEX, () -> night.liftFor(4, 0));
        Check.refused("figure -1", night, INDEX, () -> night.liftFor(-1, 1));
        Check.refused("shadow 0", night, ARGUMENT, () -> night.liftFor(0, 0));
        Check.refused("shadow 401", night, ARGUMENT, () -> night.liftFor(0, 401));
        Check.same("less", night.liftFor(0, 1), 0);
        Check.same("its height", night.liftFor(0, 40), 0);
        Check.same("one more", night.liftFor(0, 41), 2);
        Check.same("the most", night.liftFor(0, 57), 15);
        Check.same("too much", night.liftFor(0, 58), -1);
        night.grip(0);
        night.lift(0, 12);
        Check.same("wherever it is", night.liftFor(0, 41), 2);
        night.lamp(20, 0);
        Check.same("by the lamp", night.liftFor(3, 360), 15);
        Check.same("too much", night.liftFor(3, 361), -1);
        Check.same("400", night.liftFor(3, 400), -1);
    }

    private static void gripable() {
        Check.begin("promise 29");
        Kelirnight night = Nights.troupe();
        Check.same("all from their boxes", night.gripable(), 15);
        night.grip(0);
        Check.same("the left hand is full", night.gripable(), 2);
        night.move(0, 5);
        night.plant(0);
        Check.same("planted within reach", night.gripable(), 15);
        night.grip(2);
        Check.same("the right hand reaches 5", night.gripable(), 3);
        night.plant(2);
        Check.same("place 0 is full", night.gripable(), 7);
        night.grip(1);
        Check.same("the right hand is full", night.gripable(), 5);
        night.grip(0);
        Check.same("both are full", night.gripable(), 0);
        night.plant(1);
        night.plant(0);
        Check.same("place 9 is full", night.gripable(), 7);
    }

    private static void digest() {
        Check.begin("promise 30");
        Kelirnight night = new Kelirnight();
        Check.same("of a new night", night.digest(), Digest.of(night));
        Kelirnight full = Nights.troupe();
        Check.same("with figures", full.digest(), Digest.of(full));
        full.scene(20, 1, 7, 40, 1, 0);
        full.scene(20, 2, 6, 40, -1, 2);
        full.grip(0);
        full.move(0, 3);
        full.lift(0, 9);
        full.grip(1);
        full.tap(0);
        full.tap(2);
        full.speak(1, 0, 7, 0);
        full.joke(4);
        full.lamp(44, 5);
        Check.same("in the night", full.digest(), Digest.of(full));
        Check.same("again", full.digest(), Digest.of(full));
        Kelirnight told = Nights.cycle();
        told.scene(15, 0, 2, 20, -1, -1);
        told.scene(15, 0, 7, 20, -1, 0);
        Check.same("who knows behind the last", told.digest(), Digest.of(told));
    }
}
