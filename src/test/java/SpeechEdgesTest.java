/** Section 4 of the document, what is spoken, joked and offered: the edges that each of its sentences names. */
public final class SpeechEdgesTest {
    private static final Class<IllegalArgumentException> ARGUMENT = IllegalArgumentException.class;
    private static final Class<IllegalStateException> STATE = IllegalStateException.class;

    private static final int MINUTE = 0;
    private static final int TIRED = 9;
    private static final int BEARS = 10;
    private static final int SLIPS = 12;
    private static final int OFFENCES = 13;

    public static void main(String[] args) {
        speakerIsOnTheScreen();
        toAnotherOneWhereverThatIs();
        toOneself();
        minutes();
        level();
        tiredIsZeroAtFirst();
        tiredByOne();
        tiredByMinutesAndPitch();
        firstPitchIsFive();
        pitchOfTheOneWhoSpokeLast();
        tiredIsAHundredAtMost();
        notWithEighty();
        rightLevel();
        anotherLevelIsASlip();
        theseMinutesGoBy();
        jokes();
        bearsAtFirst();
        offence();
        bearsIsThirtyAtMost();
        threeMinutesGoBy();
        Check.end();
    }

    private static void speakerIsOnTheScreen() {
        Check.begin("'To SPEAK for a PERSON that is on the screen'");
        Check.refusal("in its box", STATE, () -> Nights.pairs(2), night -> night.speak(0, 1, 1, 1));
        Check.refusal("without a figure", STATE, () -> Nights.crowd(2), night -> night.speak(0, 1, 1, 1));
        Check.refusal("another one's is", STATE, () -> shown(0), night -> night.speak(1, 0, 1, 1));
        Check.taken("in a hand", () -> shown(0), night -> night.speak(0, 1, 1, 1));
        Check.taken("planted", () -> plantedOne(), night -> night.speak(0, 1, 1, 1));
        Check.refusal("put away", STATE, () -> away(), night -> night.speak(0, 1, 1, 1));
        Check.taken("one of several figures", () -> shown(2), night -> night.speak(0, 1, 1, 1));
    }

    private static Kelirnight shown(int figure) {
        Kelirnight night = Nights.pairs(4);
        night.grip(figure);
        return night;
    }

    private static Kelirnight plantedOne() {
        Kelirnight night = shown(0);
        night.plant(0);
        return night;
    }

    private static Kelirnight away() {
        Kelirnight night = shown(0);
        night.away(0);
        return night;
    }

    private static void toAnotherOneWhereverThatIs() {
        Check.begin("'to another one (wherever that is)'");
        Check.taken("in its box", () -> shown(0), night -> night.speak(0, 1, 1, 1));
        Check.taken("in the other hand", () -> shownBoth(), night -> night.speak(0, 1, 1, 1));
        Kelirnight alone = Nights.crowd(8);
        alone.figure(0, 40);
        alone.grip(0);
        Check.same("without a figure", alone.speak(0, 7, 1, 1), 2);
    }

    private static Kelirnight shownBoth() {
        Kelirnight night = shown(0);
        night.grip(1);
        return night;
    }

    private static void toOneself() {
        Check.begin("'to another one'");
        Check.refusal("to itself", ARGUMENT, () -> shown(0), night -> night.speak(0, 0, 1, 0));
        Check.refusal("the last one to itself", ARGUMENT, () -> shown(1), night -> night.speak(1, 1, 1, 0));
        Check.refusal("in its box to itself", ARGUMENT, () -> shown(0), night -> night.speak(1, 1, 1, 0));
    }

    private static void minutes() {
        Check.begin("'for 1 to 9 minutes'");
        Check.range("minutes", 1, 9, ARGUMENT, () -> shown(0), (night, minutes) -> night.speak(0, 1, minutes, 1));
    }

    private static void level() {
        Check.begin("'at a LEVEL (-1 to 1)'");
        Check.range("level", -1, 1, ARGUMENT, () -> shown(0), (night, level) -> night.speak(0, 1, 1, level));
    }

    /** Person 0 of that pitch is on the screen, 1 of the other one, too. */
    private static Kelirnight pitches(int first, int second) {
        Kelirnight night = new Kelirnight();
        night.person(0, 1, first, 0, 100, false);
        night.person(1, 1, second, 0, 100, false);
        night.figure(0, 40);
        night.figure(1, 40);
        night.grip(0);
        night.grip(1);
        return night;
    }

    private static void tiredIsZeroAtFirst() {
        Check.begin("'TIRED (0 at first)'");
        Check.same("at first", new Kelirnight().many(TIRED), 0);
        Check.same("ahead of all speeches", Nights.passAll(pitches(5, 5), 9).many(TIRED), 0);
        Check.same("the first speech", pitches(5, 5).speak(0, 1, 1, 0), 1);
    }

    private static void tiredByOne() {
        Check.begin("'is more by 1'");
        Kelirnight night = pitches(5, 5);
        for (int k = 1; k <= 60; k++) {
            Check.same("speech " + k, night.speak(k % 2, 1 - k % 2, k % 9 + 1, 0), k);
        }
    }

    private static void tiredByMinutesAndPitch() {
        Check.begin("'and by (these minutes times the difference of its PITCH ..) / 3'");
        for (int pitch = 0; pitch <= 9; pitch++) {
            for (int minutes = 1; minutes <= 9; minutes++) {
                int product = minutes * Math.abs(pitch - 5);
                int due = (product - product % 3) / 3;
                Check.same(minutes + " minutes of " + pitch, pitches(pitch, 0).speak(0, 1, minutes, 0), 1 + due);
            }
        }
    }

    private static void firstPitchIsFive() {
        Check.begin("'to 5 at first'");
        int[] due = {6, 5, 4, 3, 2, 1, 2, 3, 4, 5};
        for (int pitch = 0; pitch <= 9; pitch++) {
            Check.same("pitch " + pitch, pitches(pitch, 5).speak(0, 1, 3, 0), due[pitch]);
            Check.same("spoken to " + pitch, pitches(5, pitch).speak(0, 1, 3, 0), 1);
        }
    }

    private static void pitchOfTheOneWhoSpokeLast() {
        Check.begin("'to that of the one who spoke last'");
        for (int last = 0; last <= 9; last++) {
            for (int pitch = 0; pitch <= 9; pitch++) {
                Kelirnight night = pitches(last, pitch);
                int tired = night.speak(0, 1, 1, 0);
                Check.same(pitch + " behind " + last, night.speak(1, 0, 3, 0), tired + 1 + Math.abs(pitch - last));
                Check.same(pitch + " again", night.speak(1, 0, 9, 0), tired + 2 + Math.abs(pitch - last));
            }
        }
    }

    private static void tiredIsAHundredAtMost() {
        Check.begin("'100 at most'");
        int[][] due = {{71, 99}, {72, 100}, {73, 100}, {79, 100}};
        for (int[] pair : due) {
            Kelirnight night = Nights.tired(pair[0]);
            Check.same("tired", night.many(TIRED), pair[0]);
            Check.same(pair[0] + " and 28", night.speak(1, 0, 9, 0), pair[1]);
            Check.same("asked", night.many(TIRED), pair[1]);
        }
    }

    private static void notWithEighty() {
        Check.begin("'not with a TIRED of 80 or more'");
        Check.taken("78", () -> Nights.tired(78), night -> night.speak(1, 0, 1, 0));
        Check.taken("79", () -> Nights.tired(79), night -> night.speak(1, 0, 1, 0));
        Check.refusal("80", STATE, () -> Nights.tired(80), night -> night.speak(1, 0, 1, 0));
        Check.refusal("81", STATE, () -> tiredBy(77, 1), night -> night.speak(1, 0, 1, 0));
        Check.refusal("100", STATE, () -> tiredBy(79, 9), night -> night.speak(1, 0, 1, 0));
        Check.same("tired", tiredBy(77, 1).many(TIRED), 81);
        Kelirnight rests = Nights.tired(80);
        rests.pass(1);
        Check.same("79 a minute later", rests.speak(0, 1, 1, 0), 80);
    }

    private static Kelirnight tiredBy(int before, int minutes) {
        Kelirnight night = Nights.tired(before);
        night.speak(1, 0, minutes, 0);
        return night;
    }

    private static void rightLevel() {
        Check.begin("'The right LEVEL is 1, if the RANK .. is greater, -1, if it is smaller, otherwise 0'");
        for (int rank = 0; rank <= 3; rank++) {
            for (int other = 0; other <= 3; other++) {
                int right = Integer.compare(other, rank);
                for (int level = -1; level <= 1; level++) {
                    Kelirnight night = ranks(rank, other);
                    night.speak(0, 1, 1, level);
                    Check.same(level + " from " + rank + " to " + other, night.many(SLIPS), level == right ? 0 : 1);
                }
            }
        }
    }

    private static Kelirnight ranks(int rank, int other) {
        Kelirnight night = new Kelirnight();
        night.person(0, rank, 5, 0, 100, false);
        night.person(0, other, 5, 0, 100, false);
        night.figure(0, 40);
        night.grip(0);
        return night;
    }

    private static void anotherLevelIsASlip() {
        Check.begin("'another one is a SLIP'");
        Kelirnight night = ranks(1, 1);
        for (int k = 1; k <= 9; k++) {
            Check.same("it is spoken all the same", night.speak(0, 1, 2, k % 2 == 0 ? 1 : -1), k);
            Check.same("slips", night.many(SLIPS), k);
        }
        night.speak(0, 1, 2, 0);
        Check.same("the right one is none", night.many(SLIPS), 9);
        Check.same("no offence", night.many(OFFENCES), 0);
        Check.same("the host bears it", night.many(BEARS), 20);
    }

    private static void theseMinutesGoBy() {
        Check.begin("'These minutes go by'");
        int minute = 0;
        Kelirnight night = ranks(1, 1);
        for (int minutes = 1; minutes <= 9; minutes++) {
            night.speak(0, 1, minutes, 0);
            minute += minutes;
            Check.same("minute", night.many(MINUTE), minute);
        }
        Kelirnight music = Nights.pairs(2);
        music.scene(50, 0, 3, 90, -1, -1);
        music.tap(0);
        music.grip(0);
        music.speak(0, 1, 9, 0);
        Check.same("the orchestra plays in them", music.many(14), 9);
    }

    private static void jokes() {
        Check.begin("'A JOKE on the host, of 0 to 9: what the host BEARS .. is so much less'");
        Check.range("joke", 0, 9, ARGUMENT, Kelirnight::new, (night, joke) -> night.joke(joke));
        for (int joke = 0; joke <= 9; joke++) {
            Kelirnight night = new Kelirnight();
            Check.same("joke of " + joke, night.joke(joke), 20 - joke);
            Check.same("bears", night.many(BEARS), 20 - joke);
            Check.same("no offence", night.many(OFFENCES), 0);
        }
    }

    private static void bearsAtFirst() {
        Check.begin("'(20 at first)'");
        Kelirnight night = new Kelirnight();
        Check.same("at first", night.many(BEARS), 20);
        Check.same("of 0", night.joke(0), 20);
        night.joke(9);
        night.joke(9);
        Check.same("20 to 0", night.joke(2), 0);
    }

    private static Kelirnight bearing(int bears) {
        Kelirnight night = new Kelirnight();
        int left = 20 - bears;
        while (left > 0) {
            int now = Math.min(left, 9);
            night.joke(now);
            left -= now;
        }
        return night;
    }

    private static void offence() {
        Check.begin("'if it would be below 0, that is an OFFENCE, and it stays'");
        for (int bears = 0; bears <= 9; bears++) {
            for (int joke = 0; joke <= 9; joke++) {
                Kelirnight night = bearing(bears);
                boolean borne = joke <= bears;
                Check.same(joke + " with " + bears, night.joke(joke), borne ? bears - joke : -2);
                Check.same("bears", night.many(BEARS), borne ? bears - joke : bears);
                Check.same("offences", night.many(OFFENCES), borne ? 0 : 1);
            }
        }
        Kelirnight night = bearing(0);
        for (int k = 1; k <= 9; k++) {
            night.joke(1);
            Check.same("offences", night.many(OFFENCES), k);
        }
    }

    private static void bearsIsThirtyAtMost() {
        Check.begin("'An OFFERING: BEARS is 5 more (30 at most)'");
        for (int bears = 0; bears <= 20; bears++) {
            Check.same("from " + bears, bearing(bears).offer(), bears + 5);
        }
        for (int less = 0; less <= 6; less++) {
            Kelirnight night = new Kelirnight();
            night.offer();
            night.offer();
            night.joke(less);
            Check.same("from " + (30 - less), night.offer(), Math.min(30, 35 - less));
            Check.same("bears", night.many(BEARS), Math.min(30, 35 - less));
        }
    }

    private static void threeMinutesGoBy() {
        Check.begin("'and 3 minutes go by'");
        Kelirnight night = Nights.tired(9);
        int minute = night.many(MINUTE);
        for (int k = 1; k <= 4; k++) {
            night.offer();
            Check.same("minute", night.many(MINUTE), minute + 3 * k);
            Check.same("nobody speaks in them", night.many(TIRED), Math.max(0, 9 - 3 * k));
        }
        Kelirnight music = Nights.playing(0);
        music.offer();
        Check.same("the orchestra plays in them", music.many(14), 3);
    }
}
