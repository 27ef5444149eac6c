import java.util.ArrayList;
import java.util.Collections;
import java.util.HashSet;
import java.util.List;
import java.util.Set;

/** Section 2 of the document once more, in sets and lists, from the calls that told the plot. */
final class PlotModel {
    private final List<int[]> persons = new ArrayList<>();
    private final List<int[]> scenes = new ArrayList<>();

    /** Calls are written as RandomRunsTest has them: the kind, then what was given. */
    void note(int[] call, long answer) {
        switch (call[0]) {
            case 0:
                persons.add(call);
                Check.same("number of a person", answer, persons.size() - 1);
                break;
            case 2:
                scenes.add(call.clone());
                Check.same("number of a scene", answer, scenes.size() - 1);
                break;
            case 3:
                Check.same("length before", answer, scenes.get(call[1])[4]);
                scenes.get(call[1])[4] = call[2];
                break;
            case 4:
                Collections.swap(scenes, call[1], call[2]);
                Check.same("breaches behind a swap", answer, breaches());
                break;
            default:
                break;
        }
    }

    void compare(Kelirnight night) {
        Check.same("persons", night.many(1), persons.size());
        Check.same("scenes", night.many(3), scenes.size());
        Check.same("end of the plot", night.many(4), begins(scenes.size()));
        Check.same("breaches", night.many(5), breaches());
        Check.same("the scene that is on", night.many(6), sceneOn(night.many(0)));
        for (int k = 0; k < scenes.size(); k++) {
            Check.same("begin of " + k, night.ofScene(k, 6), begins(k));
            Check.same("breach of " + k, night.ofScene(k, 8), breach(k));
        }
        for (int one = 0; one < persons.size(); one++) {
            for (int k = 0; k <= scenes.size(); k++) {
                Check.truth("knows(" + one + ", " + (k - 1) + ")", night.knows(one, k - 1), knowers(k).contains(one));
            }
        }
    }

    private int begins(int scene) {
        int minutes = 0;
        for (int[] ahead : scenes.subList(0, scene)) {
            minutes += ahead[4];
        }
        return minutes;
    }

    private int sceneOn(int minute) {
        for (int k = 0; k < scenes.size(); k++) {
            if (begins(k) <= minute && minute < begins(k + 1)) {
                return k;
            }
        }
        return -1;
    }

    private int breaches() {
        int count = 0;
        for (int k = 0; k < scenes.size(); k++) {
            count += breach(k) == 0 ? 0 : 1;
        }
        return count;
    }

    private int breach(int scene) {
        int[] told = scenes.get(scene);
        int part = Math.min(begins(scene) / 180, 2);
        for (int one : cast(told)) {
            int[] person = persons.get(one);
            if (told[1] < person[4] || person[5] < told[1] || isDead(one, scene)) {
                return 1;
            }
        }
        if (told[5] != -1 && persons.get(told[5])[5] != told[1]) {
            return 2;
        }
        if (told[6] != -1 && !knowers(scene).contains(told[6])) {
            return 3;
        }
        if ((part == 0 && told[2] > 1) || (part == 1 && told[2] > 2)) {
            return 4;
        }
        return begins(scene + 1) > 540 ? 5 : 0;
    }

    private boolean isDead(int one, int scene) {
        for (int[] ahead : scenes.subList(0, scene)) {
            if (ahead[5] == one && scenes.get(scene)[1] >= ahead[1]) {
                return true;
            }
        }
        return false;
    }

    private Set<Integer> knowers(int scene) {
        Set<Integer> known = new HashSet<>();
        for (int k = 0; k < persons.size(); k++) {
            if ((persons.get(k)[6] & 1) == 1) {
                known.add(k);
            }
        }
        for (int[] ahead : scenes.subList(0, scene)) {
            if (known.contains(ahead[6])) {
                known.addAll(cast(ahead));
            }
        }
        return known;
    }

    private static List<Integer> cast(int[] told) {
        List<Integer> members = new ArrayList<>();
        for (int k = 0; k < 8; k++) {
            if ((told[3] >> k & 1) == 1) {
                members.add(k);
            }
        }
        return members;
    }
}
