/** Section 4 of the document, THE SOUND, the orchestra's part: the edges that each of its sentences names. */
public final class SoundEdgesTest {
    private static final int[] CYCLES = {8, 16, 12, 32};
    private static final int FASTER = 1;
    private static final int SLOWER = 2;
    private static final int STOP = 3;

    private static final int MISSED = 11;
    private static final int GONGS = 14;

    public static void main(String[] args) {
        silentAtFirst();
        pieceOfTheMood();
        speedIsOneToThree();
        cycles();
        beginsAtSpeedOneAndBeatZero();
        beginsOnlyIfSilent();
        beginsOnlyIfASceneIsOn();
        tapsWhileItPlays();
        tapsAreDoneAtTheNextGong();
        laterTapTakesThePlace();
        missedTapTakesNoPlace();
        missedTaps();
        beatsOfAMinute();
        speedAsTheMinuteBegins();
        gongAsTheBeatIsTheCycle();
        whatWaitsIsDoneOnce();
        speedStaysAtThree();
        speedStaysAtOne();
        nothingMoreThen();
        beginsAnew();
        Check.end();
    }

    /** Plays at that speed; the beat is as the faster taps have left it. */
    private static Kelirnight playingAt(int mood, int speed) {
        Kelirnight night = Nights.playing(mood);
        while (night.sound(1) < speed) {
            night.tap(FASTER);
            for (int k = 0; k < 4 && night.sound(3) != 0; k++) {
                night.pass(1);
            }
        }
        return night;
    }

    private static void compareSound(String what, Kelirnight night, int... due) {
        for (int k = 0; k < due.length; k++) {
            Check.same(what + ", sound(" + k + ")", night.sound(k), due[k]);
        }
    }

    private static void silentAtFirst() {
        Check.begin("'The orchestra is SILENT (at first)'");
        Kelirnight night = Nights.troupe();
        compareSound("at first", night, -1, 0, 0, 0);
        Check.same("no gong", night.pass(99), 0);
        compareSound("later", night, -1, 0, 0, 0);
        Check.same("next gong", night.nextGong(), -1);
    }

    private static void pieceOfTheMood() {
        Check.begin("'plays the PIECE of a MOOD', that of the SCENE that is ON");
        for (int mood = 0; mood <= 3; mood++) {
            compareSound("mood " + mood, Nights.playing(mood), mood, 1, 0, 0);
        }
        Kelirnight night = Nights.crowd(1);
        night.scene(0, 3, 1, 5, -1, -1);
        night.scene(0, 1, 1, 5, -1, -1);
        night.pass(4);
        night.tap(0);
        Check.same("in the last minute of a scene", night.sound(0), 3);
        night.pass(1);
        Check.same("it goes on in the next one", night.sound(0), 3);
        Kelirnight next = Nights.crowd(1);
        next.scene(0, 3, 1, 5, -1, -1);
        next.scene(0, 1, 1, 5, -1, -1);
        next.pass(5);
        next.tap(0);
        Check.same("in the first minute of the next", next.sound(0), 1);
    }

    private static void speedIsOneToThree() {
        Check.begin("'at a SPEED (1 to 3)'");
        for (int mood = 0; mood <= 3; mood++) {
            for (int speed = 1; speed <= 3; speed++) {
                Check.same("mood " + mood, playingAt(mood, speed).sound(1), speed);
            }
        }
    }

    private static void cycles() {
        Check.begin("'in a CYCLE of 8, 16, 12, 32 beats for the MOODS 0 to 3; the BEAT is 0 to one less'");
        for (int mood = 0; mood <= 3; mood++) {
            for (int speed = 1; speed <= 3; speed++) {
                Kelirnight night = playingAt(mood, speed);
                int played = night.sound(2);
                int gongs = night.many(GONGS);
                for (int k = 0; k < 14; k++) {
                    played += 8 * speed;
                    gongs += played / CYCLES[mood];
                    played %= CYCLES[mood];
                    night.pass(1);
                    Check.same("beat of " + mood + " at " + speed, night.sound(2), played);
                    Check.same("gongs of " + mood + " at " + speed, night.many(GONGS), gongs);
                }
            }
        }
    }

    private static void beginsAtSpeedOneAndBeatZero() {
        Check.begin("'0 begins the PIECE .., at the SPEED 1, with the BEAT 0'");
        Kelirnight night = playingAt(3, 3);
        night.tap(STOP);
        night.pass(2);
        Check.truth("begun anew", night.tap(0), true);
        compareSound("after it was fast", night, 3, 1, 0, 0);
    }

    private static void beginsOnlyIfSilent() {
        Check.begin("'if it is SILENT'");
        Kelirnight night = Nights.playing(3);
        night.pass(1);
        Check.truth("while it plays", night.tap(0), false);
        compareSound("it plays on", night, 3, 1, 8, 0);
        night.tap(STOP);
        Check.truth("while the stop waits", night.tap(0), false);
        night.pass(3);
        Check.truth("silent", night.tap(0), true);
    }

    private static void beginsOnlyIfASceneIsOn() {
        Check.begin("'(and a SCENE is ON)'");
        Check.truth("without scenes", Nights.crowd(1).tap(0), false);
        Check.truth("in 0", Nights.row(5).tap(0), true);
        Check.truth("in the last minute", Nights.passAll(Nights.row(5), 4).tap(0), true);
        Check.truth("behind all", Nights.passAll(Nights.row(5), 5).tap(0), false);
        Check.truth("in 540, over at 541", Nights.passAll(Nights.fullUpTo(541), 540).tap(0), true);
        Check.truth("in 540, over at 540", Nights.passAll(Nights.fullUpTo(540), 540).tap(0), false);
        Kelirnight told = Nights.passAll(Nights.row(5), 5);
        told.tap(0);
        compareSound("still silent", told, -1, 0, 0, 0);
        told.scene(50, 2, 1, 5, -1, -1);
        Check.truth("one is told", told.tap(0), true);
    }

    private static void tapsWhileItPlays() {
        Check.begin("'while it plays 1 lets it get faster, 2 slower, 3 stop'");
        for (int tap = 1; tap <= 3; tap++) {
            Kelirnight night = playingAt(3, 2);
            Check.truth("tap " + tap, night.tap(tap), true);
            compareSound("it waits", night, 3, 2, 0, tap);
            night.pass(2);
            compareSound("it is done", night, tap == STOP ? -1 : 3, tap == FASTER ? 3 : tap == SLOWER ? 1 : 0, 0, 0);
            Kelirnight silent = Nights.troupe();
            Check.truth("tap " + tap + " while it is silent", silent.tap(tap), false);
            compareSound("silent", silent, -1, 0, 0, 0);
        }
        Kelirnight late = Nights.passAll(Nights.playing(0), 540);
        Check.truth("behind the plot", late.tap(FASTER), true);
    }

    private static void tapsAreDoneAtTheNextGong() {
        Check.begin("'each at the next gong'");
        for (int tap = 1; tap <= 3; tap++) {
            Kelirnight night = playingAt(3, 2);
            night.tap(tap);
            night.pass(1);
            compareSound("ahead of the gong", night, 3, 2, 16, tap);
            night.pass(1);
            Check.same("nothing waits behind it", night.sound(3), 0);
            Check.truth("done " + tap, night.sound(1) != 2, true);
        }
    }

    private static void laterTapTakesThePlace() {
        Check.begin("'a later one of these takes the place of one that waits'");
        int[] speeds = {0, 3, 1, 0};
        for (int first = 1; first <= 3; first++) {
            for (int later = 1; later <= 3; later++) {
                Kelirnight night = playingAt(3, 2);
                night.tap(first);
                night.pass(1);
                Check.truth("not missed", night.tap(later), true);
                Check.same("waits", night.sound(3), later);
                night.pass(1);
                Check.same(later + " in the place of " + first, night.sound(1), speeds[later]);
                night.pass(4);
                Check.same("the first is not done later", night.sound(1), speeds[later]);
            }
        }
    }

    private static void missedTapTakesNoPlace() {
        Check.begin("'a later one of these': a tap of 0 is none of them");
        Kelirnight night = playingAt(3, 2);
        night.tap(FASTER);
        Check.truth("missed", night.tap(0), false);
        compareSound("faster still waits", night, 3, 2, 0, FASTER);
        night.pass(2);
        Check.same("done", night.sound(1), 3);
    }

    private static void missedTaps() {
        Check.begin("'A TAP that can not be is MISSED'");
        Kelirnight night = Nights.crowd(1);
        for (int tap = 0; tap <= 3; tap++) {
            Check.truth("tap " + tap, night.tap(tap), false);
            Check.same("missed", night.many(MISSED), tap + 1);
        }
        night.scene(0, 0, 1, 90, -1, -1);
        night.tap(0);
        night.tap(1);
        night.tap(1);
        night.tap(2);
        night.tap(3);
        Check.same("those that can be", night.many(MISSED), 4);
        night.tap(0);
        Check.same("begun twice", night.many(MISSED), 5);
    }

    private static void beatsOfAMinute() {
        Check.begin("'A minute has 8 times SPEED beats'");
        for (int speed = 1; speed <= 3; speed++) {
            Kelirnight night = playingAt(3, speed);
            Check.same("beat", night.sound(2), 0);
            night.pass(1);
            Check.same("at speed " + speed, night.sound(2), 8 * speed);
        }
    }

    private static void speedAsTheMinuteBegins() {
        Check.begin("'by the SPEED as it begins'");
        Kelirnight faster = Nights.playing(2);
        faster.tap(FASTER);
        faster.pass(2);
        compareSound("16 beats, faster at the 12th", faster, 2, 2, 4, 0);
        faster.tap(SLOWER);
        faster.pass(1);
        compareSound("16 beats from 4, slower at the 8th", faster, 2, 1, 8, 0);
        Kelirnight slow = playingAt(0, 3);
        slow.tap(SLOWER);
        Check.same("24 beats, slower at the 8th", slow.pass(1), 3);
        Check.same("16 beats", slow.pass(1), 2);
    }

    private static void gongAsTheBeatIsTheCycle() {
        Check.begin("'as that is the CYCLE, the BEAT is 0: a GONG'");
        int[][] due = {{1, 1, 1, 1}, {0, 1, 0, 1}, {0, 1, 1, 0}, {0, 0, 0, 1}};
        for (int mood = 0; mood <= 3; mood++) {
            Kelirnight night = Nights.playing(mood);
            for (int k = 0; k < 4; k++) {
                Check.same("mood " + mood + ", minute " + k, night.pass(1), due[mood][k]);
            }
        }
    }

    private static void whatWaitsIsDoneOnce() {
        Check.begin("'what waits is done', at one GONG of several in a minute");
        Kelirnight night = playingAt(0, 2);
        night.tap(SLOWER);
        Check.same("two gongs", night.pass(1), 2);
        compareSound("slower by 1", night, 0, 1, 0, 0);
        Kelirnight fast = playingAt(0, 3);
        fast.tap(SLOWER);
        Check.same("three gongs", fast.pass(1), 3);
        compareSound("slower by 1", fast, 0, 2, 0, 0);
        Check.same("two gongs", fast.pass(1), 2);
        compareSound("nothing waits", fast, 0, 2, 0, 0);
    }

    private static void speedStaysAtThree() {
        Check.begin("'(it stays, if it would not be 1 to 3)': faster at 3");
        Kelirnight night = playingAt(3, 3);
        Check.truth("not missed", night.tap(FASTER), true);
        compareSound("it waits", night, 3, 3, 0, FASTER);
        night.pass(2);
        compareSound("it is done", night, 3, 3, 16, 0);
        night.tap(SLOWER);
        night.pass(1);
        Check.same("one slower is 2", night.sound(1), 2);
    }

    private static void speedStaysAtOne() {
        Check.begin("'(it stays, if it would not be 1 to 3)': slower at 1");
        Kelirnight night = Nights.playing(3);
        Check.truth("not missed", night.tap(SLOWER), true);
        compareSound("it waits", night, 3, 1, 0, SLOWER);
        night.pass(4);
        compareSound("it is done", night, 3, 1, 0, 0);
        night.tap(FASTER);
        night.pass(4);
        Check.same("one faster is 2", night.sound(1), 2);
    }

    private static void nothingMoreThen() {
        Check.begin("'or it is SILENT (nothing more then)'");
        Kelirnight night = playingAt(0, 3);
        int gongs = night.many(GONGS);
        night.tap(STOP);
        Check.same("one gong of three", night.pass(1), 1);
        compareSound("silent", night, -1, 0, 0, 0);
        Check.same("no more", night.pass(9), 0);
        Check.same("gongs ever", night.many(GONGS), gongs + 1);
        Kelirnight wild = Nights.playing(2);
        wild.tap(STOP);
        wild.pass(2);
        compareSound("4 beats are not played", wild, -1, 0, 0, 0);
    }

    private static void beginsAnew() {
        Check.begin("'0 begins the PIECE', after it was stopped");
        Kelirnight night = Nights.crowd(1);
        night.scene(0, 2, 1, 5, -1, -1);
        night.scene(0, 1, 1, 5, -1, -1);
        night.tap(0);
        night.tap(STOP);
        night.pass(5);
        Check.truth("begun anew", night.tap(0), true);
        compareSound("the mood of the next scene", night, 1, 1, 0, 0);
        Check.same("gongs of the first piece", night.many(GONGS), 1);
        night.pass(2);
        Check.same("gongs of both", night.many(GONGS), 2);
        Check.same("the stop does not wait any more", night.sound(0), 1);
    }
}
