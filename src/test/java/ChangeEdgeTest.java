import java.util.function.ToLongFunction;

/**
 * A change leaves what it is not about; what was asked before it makes no difference; and nothing of what was measured
 * lingers when points, trails or whole runs are taken back.
 */
public final class ChangeEdgeTest extends Checks {
    private static String poleOf(ArcPlate plate) {
        return plate.whole(2) + ", " + plate.whole(3);
    }

    private static String settingsOf(ArcPlate plate) {
        StringBuilder told = new StringBuilder();
        for (int what = 0; what <= 9; what++) {
            told.append(plate.setting(what)).append(' ');
        }
        return told.toString();
    }

    private static String starsOf(ArcPlate plate) {
        StringBuilder told = new StringBuilder();
        for (int s = 0; s < plate.whole(1); s++) {
            for (int what = 0; what <= 2; what++) {
                told.append(plate.star(s, what)).append(' ');
            }
        }
        return told.toString();
    }

    private static String trailsOf(ArcPlate plate) {
        StringBuilder told = new StringBuilder();
        for (int t = 0; t < plate.whole(0); t++) {
            told.append("trail ");
            for (int p = 0; p < plate.trail(t, 0); p++) {
                for (int what = 0; what <= 2; what++) {
                    told.append(plate.point(t, p, what)).append(' ');
                }
            }
        }
        return told.toString();
    }

    /** Of pole (p), settings (e), stars (s) and trails (t) a change leaves those named, and the text and the stop. */
    private static void leaves(String letters, String what, ToLongFunction<ArcPlate> change) {
        ArcPlate before = busyPlate();
        ArcPlate after = busyPlate();
        change.applyAsLong(after);
        if (letters.contains("p")) {
            due(poleOf(before), poleOf(after), "pole after " + what);
        }
        if (letters.contains("e")) {
            due(settingsOf(before), settingsOf(after), "settings after " + what);
        }
        if (letters.contains("s")) {
            due(starsOf(before), starsOf(after), "stars after " + what);
        }
        if (letters.contains("t")) {
            due(trailsOf(before), trailsOf(after), "trails after " + what);
        }
        due(before.stop(), after.stop(), "stop after " + what);
        due(before.clearCommands(), after.clearCommands(), "length of the text after " + what);
    }

    private static void changesChangeNoMore() {
        tell("a change leaves what it is not about");
        leaves("pes", "addTrail", ArcPlate::addTrail);
        leaves("pes", "removeTrail", plate -> plate.removeTrail(0));
        leaves("pes", "addPoint", plate -> plate.addPoint(0, 0, 4000, 4000));
        leaves("pes", "removePoint", plate -> plate.removePoint(0, 0));
        leaves("pst", "set", plate -> plate.set(2, 50));
        leaves("est", "setPole", plate -> plate.setPole(6000, -2000));
        leaves("est", "search", plate -> plate.search(512));
        leaves("pet", "addStar", plate -> plate.addStar(1, 2, 3));
        leaves("pet", "removeStar", plate -> plate.removeStar(0));
        for (int what = 0; what <= 9; what++) {
            ArcPlate plate = busyPlate();
            ArcPlate changed = busyPlate();
            changed.set(what, 9);
            for (int other = 0; other <= 9; other++) {
                due(other == what ? 9 : plate.setting(other), changed.setting(other), other + " after set of " + what);
            }
        }
    }

    private static void askedBefore(String what, ToLongFunction<ArcPlate> change) {
        ArcPlate asked = oneSaved();
        asked.digest();
        asked.bestZero();
        change.applyAsLong(asked);
        ArcPlate silent = oneSaved();
        change.applyAsLong(silent);
        due(silent.digest(), asked.digest(), "digest after " + what);
    }

    private static void askingMakesNoDifference() {
        tell("what was asked before a change makes no difference to what is answered behind it");
        askedBefore("addTrail", ArcPlate::addTrail);
        askedBefore("removeTrail", plate -> plate.removeTrail(0));
        askedBefore("addPoint", plate -> plate.addPoint(0, 0, 2000, 2050));
        askedBefore("removePoint", plate -> plate.removePoint(0, 1));
        for (int what = 0; what <= 9; what++) {
            int setting = what;
            askedBefore("set of " + what, plate -> plate.set(setting, 9));
        }
        askedBefore("setPole", plate -> plate.setPole(1990, 2000));
        askedBefore("search", plate -> plate.setPole(1900, 2000) + plate.search(64));
        askedBefore("addStar", plate -> plate.addStar(100, 0, 9));
        askedBefore("removeStar", plate -> plate.removeStar(0));
        askedBefore("runCommands", ArcPlate::runCommands);
        askedBefore("undo", ArcPlate::undo);
        askedBefore("clearCommands", ArcPlate::clearCommands);
        askedBefore("type", plate -> plate.type(' '));
    }

    /** A good trail with a gap and a match, all of which was asked, and then an empty one. */
    private static ArcPlate goodThenEmpty() {
        ArcPlate plate = around(1000, 100, 0, 100, 0);
        plate.set(0, 0);
        plate.addTrail();
        plate.addStar(100, 0, 9);
        dueTrail(plate, 0, 2, 100, 0, 0, 0, 0, 1, 1, 0);
        return plate;
    }

    private static void nothingLingers() {
        tell("a trail without points has no values, whatever stood at its number before");
        ArcPlate emptied = goodThenEmpty();
        emptied.removePoint(0, 1);
        emptied.removePoint(0, 0);
        dueTrail(emptied, 0, 0, NONE, NONE, NONE, NONE, NONE, 0, 0, NONE);
        dueWhole(emptied, 2, 1, 2000, 2000, 0, 0, 0, 0, 1, 0, 0);
        due(NONE, emptied.meanRate(), "mean rate");
        due(NONE, emptied.meanScale(), "mean scale");
        due(NONE, emptied.bestZero(), "best zero");
        ArcPlate removed = goodThenEmpty();
        removed.removeTrail(0);
        dueTrail(removed, 0, 0, NONE, NONE, NONE, NONE, NONE, 0, 0, NONE);
        dueWhole(removed, 1, 1, 2000, 2000, 0, 0, 0, 0, 1, 0, 0);
        removed.undo();
        dueTrail(removed, 0, 2, 100, 0, 0, 0, 0, 1, 1, 0);
        due(0, removed.meanRate(), "mean rate brought back");
        ArcPlate undone = new ArcPlate();
        run(undone, "trail;");
        run(undone, "point 0 0 2100 2000;point 0 1000 2100 2000;back 0;star 100 0 9;");
        dueTrail(undone, 0, 2, 100, 0, 0, 0, 0, 1, 1, 0);
        undone.undo();
        dueTrail(undone, 0, 0, NONE, NONE, NONE, NONE, NONE, 0, 0, NONE);
        dueWhole(undone, 1, 0, 2000, 2000, 0, 0, 0, 0, 0, 0, 0);
    }

    public static void main(String[] args) {
        changesChangeNoMore();
        askingMakesNoDifference();
        nothingLingers();
        end();
    }
}
