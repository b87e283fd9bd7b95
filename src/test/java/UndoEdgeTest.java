import java.math.BigInteger;
import java.util.List;
import java.util.function.Supplier;
import java.util.function.ToLongFunction;

/**
 * The new object, the undo stack with none, four and more states, which calls save one and which do not, what undo
 * brings back and what it leaves, the stop, and the hash with its overflow.
 */
public final class UndoEdgeTest extends Checks {
    private static void newObject() {
        tell("promise 1: everything as at first");
        ArcPlate plate = new ArcPlate();
        dueWhole(plate, 0, 0, 2000, 2000, 0, 0, 0, 0, 0, 0, 0);
        dueSettings(plate, 250, 0, 0, 5, 1000, 50, 100, 1000, 0, 3);
        due(0, plate.stop(), "stop");
        due(NONE, plate.missing(0), "missing");
        due(NONE, plate.meanRate(), "mean rate");
        due(NONE, plate.meanScale(), "mean scale");
        due(NONE, plate.bestZero(), "best zero");
        due(100100, plate.bestDrift(0), "best drift, the present one");
        due(95095, plate.bestDrift(5), "best drift, the lowest one");
        due(0, plate.costAt(-2000, -2000), "cost at a corner");
        due(-4905615295614285787L, plate.digest(), "digest");
        badState(plate, "undo", plate::undo);
        due(0, plate.clearCommands(), "length of the text");
        due(0, plate.runCommands(), "commands of an empty text");
        due(0, plate.undo(), "undo of this run");
    }

    private static void objectsByThemselves() {
        tell("promise 1: what is done to one object shows in no other");
        ArcPlate untouched = new ArcPlate();
        ArcPlate busy = busyPlate();
        due(story(new ArcPlate()), story(untouched), "an object beside a busy one");
        due(story(busyPlate()), story(busy), "a busy one beside another");
        for (int what = 0; what < 10; what++) {
            new ArcPlate().set(what, 7);
        }
        dueSettings(new ArcPlate(), 250, 0, 0, 5, 1000, 50, 100, 1000, 0, 3);
    }

    private static void atMostFourStates() {
        tell("the stack keeps the latest 4 saved states and drops older ones");
        for (int saved = 0; saved <= 9; saved++) {
            ArcPlate plate = new ArcPlate();
            for (int n = 1; n <= saved; n++) {
                due(n == 1 ? 250 : n - 1, plate.set(0, n), "rate before " + n);
            }
            int states = Math.min(saved, 4);
            for (int n = 1; n <= states; n++) {
                due(states - n, plate.undo(), "states left after undo " + n + " of " + saved);
                int before = saved - n;
                due(before == 0 ? 250 : before, plate.setting(0), "rate after undo " + n + " of " + saved);
            }
            badState(plate, "one more undo of " + saved, plate::undo);
            due(saved <= 4 ? 250 : saved - 4, plate.setting(0), "rate after all of " + saved);
        }
    }

    private static void undoMakesRoom() {
        tell("a state that was restored is off the stack, and others come upon those below it");
        ArcPlate plate = new ArcPlate();
        for (int n = 1; n <= 5; n++) {
            plate.set(0, n);
        }
        due(3, plate.undo(), "undo of 5");
        due(2, plate.undo(), "undo of 4");
        plate.set(0, 40);
        plate.set(0, 50);
        plate.set(0, 60);
        int[] rates = {50, 40, 3, 2};
        for (int n = 0; n < 4; n++) {
            due(3 - n, plate.undo(), "states left");
            due(rates[n], plate.setting(0), "rate");
        }
        badState(plate, "undo of what was dropped", plate::undo);
        due(2, plate.set(0, 9), "rate then");
        due(0, plate.undo(), "undo is possible again");
        due(2, plate.setting(0), "rate after it");
    }

    private static void saves(String what, ToLongFunction<ArcPlate> call) {
        ArcPlate plate = oneSaved();
        long before = plate.digest();
        call.applyAsLong(plate);
        due(1, plate.undo(), "states left when " + what + " is undone");
        due(before, plate.digest(), "digest when " + what + " is undone");
        due(0, plate.undo(), "states left when the run before it is undone");
        due(0, plate.whole(0), "trails before the run");
    }

    private static void undoableCalls() {
        tell("undoable: one state, that from before the call");
        saves("addTrail", ArcPlate::addTrail);
        saves("removeTrail of the first", plate -> plate.removeTrail(0));
        saves("removeTrail of the last", plate -> plate.removeTrail(1));
        saves("addPoint", plate -> plate.addPoint(0, 5, 0, 0));
        saves("addPoint before others", plate -> plate.addPoint(0, 0, 4000, 0));
        saves("addPoint behind others", plate -> plate.addPoint(1, 1000, 0, 4000));
        saves("removePoint", plate -> plate.removePoint(0, 0));
        saves("removePoint of the only one", plate -> plate.removePoint(1, 0));
        for (int what = 0; what <= 9; what++) {
            int setting = what;
            saves("set of " + what, plate -> plate.set(setting, 8));
        }
        saves("setPole", plate -> plate.setPole(-2000, 6000));
        saves("search", plate -> plate.search(512));
        saves("addStar", plate -> plate.addStar(1, 0, 0));
        saves("removeStar of the first", plate -> plate.removeStar(0));
        saves("removeStar of the last", plate -> plate.removeStar(1));
        tell("undoable, also if it changes nothing");
        for (int what = 0; what <= 9; what++) {
            int setting = what;
            saves("set of " + what + " to what it is", plate -> plate.set(setting, plate.setting(setting)));
        }
        saves("setPole to where it is", plate -> plate.setPole(2000, 2000));
        saves("search without a move", plate -> plate.search(1));
    }

    private static void undoableRuns() {
        tell("a run saves one state, the one from before it; its commands save none");
        String[] texts = {"", "  ", "trail;", "trail;".repeat(6), "search 0;", "trail;star 1 2 3;search 0;trail;",
            "set 0 250;", "trail;".repeat(13)};
        for (String text : texts) {
            ArcPlate plate = new ArcPlate();
            plate.set(3, 77);
            write(plate, text);
            plate.runCommands();
            due(1, plate.undo(), "states left when \"" + text + "\" is undone");
            due(0, plate.whole(0), "trails then");
            due(0, plate.whole(1), "stars then");
            due(77, plate.setting(3), "setting then");
            due(0, plate.undo(), "states left when all is undone");
            due(5, plate.setting(3), "setting when all is undone");
        }
        ArcPlate plate = new ArcPlate();
        write(plate, "trail;");
        for (int n = 0; n < 6; n++) {
            plate.runCommands();
        }
        for (int n = 1; n <= 4; n++) {
            due(4 - n, plate.undo(), "states left of six runs");
            due(6 - n, plate.whole(0), "trails left of six runs");
        }
        badState(plate, "undo of the second run", plate::undo);
    }

    private static void savesNothing(String what, ToLongFunction<ArcPlate> call) {
        ArcPlate plate = oneSaved();
        call.applyAsLong(plate);
        due(0, plate.undo(), "states left after " + what + " and undo");
        due(0, plate.whole(0), "trails after " + what + " and undo");
    }

    private static void callsThatSaveNothing() {
        tell("calls that are not undoable save nothing");
        savesNothing("type", plate -> plate.type('x'));
        savesNothing("clearCommands", ArcPlate::clearCommands);
        savesNothing("a run with a fault", plate -> plate.type('x') + plate.runCommands());
        savesNothing("stop", ArcPlate::stop);
        savesNothing("digest", ArcPlate::digest);
        savesNothing("costAt", plate -> plate.costAt(0, 0));
        savesNothing("meanRate", ArcPlate::meanRate);
        savesNothing("meanScale", ArcPlate::meanScale);
        savesNothing("bestZero", ArcPlate::bestZero);
        savesNothing("bestDrift", plate -> plate.bestDrift(5));
        savesNothing("values", plate -> plate.point(0, 0, 6) + plate.trail(0, 8) + plate.star(0, 6) + plate.starAngle(0, 9)
            + plate.cost(0, 0) + plate.missing(0) + plate.setting(0) + plate.whole(4));
    }

    private static void undoLeavesTextAndStop() {
        tell("all but the command text and the stop is saved");
        ArcPlate plate = new ArcPlate();
        plate.addTrail();
        plate.addTrail();
        due(0, run(plate, "search 0;"), "a run that stops at once");
        write(plate, "trail;");
        plate.addTrail();
        due(3, plate.undo(), "states left");
        due(2, plate.stop(), "the stop of the run stays");
        due(2, plate.undo(), "undo of the run");
        due(2, plate.stop(), "the stop stays when its run is undone");
        due(1, plate.runCommands(), "the text is the latest one");
        due(0, plate.stop(), "the stop of it");
        plate.undo();
        due(0, plate.stop(), "the stop is not brought back");
        due(6, plate.clearCommands(), "length of the text");
        plate.undo();
        due(0, plate.clearCommands(), "a text that was cleared is not brought back");
    }

    private static void undoOfFullThings() {
        tell("undo brings back all trails, points and stars of a full plate");
        List<ToLongFunction<ArcPlate>> changes = List.of(plate -> plate.removeTrail(0), plate -> plate.removeTrail(11),
            plate -> plate.removePoint(0, 0), plate -> plate.removePoint(11, 11), plate -> plate.removeStar(0),
            plate -> plate.removeStar(11), plate -> plate.setPole(-2000, 6000), plate -> plate.set(1, 100));
        for (ToLongFunction<ArcPlate> change : changes) {
            ArcPlate plate = fullPlate();
            change.applyAsLong(plate);
            due(3, plate.undo(), "states left");
            // One more state, which changes nothing else, so that the stack is as full as that of the other one.
            plate.set(0, 250);
            due(fullPlate().digest(), plate.digest(), "digest of the full plate");
        }
    }

    private static void undoOfChangesInARow() {
        tell("four changes in a row, each undone to the state before it");
        ArcPlate plate = new ArcPlate();
        long[] digests = new long[4];
        digests[0] = plate.digest();
        plate.addTrail();
        digests[1] = plate.digest();
        plate.addPoint(0, 7, 8, 9);
        digests[2] = plate.digest();
        plate.addStar(10, 11, 9);
        digests[3] = plate.digest();
        plate.setPole(13, 14);
        for (int n = 3; n >= 0; n--) {
            due(n, plate.undo(), "states left");
            due(digests[n], plate.digest(), "digest before change " + n);
        }
    }

    private static void stops() {
        tell("promise 27: 0 if there was no run, else that of the latest run without a fault");
        ArcPlate plate = new ArcPlate();
        due(0, plate.stop(), "without a run");
        plate.type('x');
        plate.runCommands();
        due(0, plate.stop(), "after a fault alone");
        String[] texts = {"point 0 0 0 0;", "search 0;", "trail;point 0 0 0 0;point 0 0 0 0;", "search 1;", ""};
        int[] due = {1, 2, 3, 0, 0};
        for (int from = 0; from < texts.length; from++) {
            for (int to = 0; to < texts.length; to++) {
                ArcPlate fresh = new ArcPlate();
                run(fresh, texts[from]);
                due(due[from], fresh.stop(), "stop of \"" + texts[from] + "\"");
                fresh.undo();
                run(fresh, texts[to]);
                due(due[to], fresh.stop(), "stop of \"" + texts[to] + "\" after that of \"" + texts[from] + "\"");
            }
        }
        ArcPlate calls = new ArcPlate();
        noSuch(calls, "a call", () -> calls.removeTrail(0));
        badValue(calls, "a call", () -> calls.search(0));
        badState(calls, "a call", calls::undo);
        due(0, calls.stop(), "calls that throw are no runs");
    }

    private static long overflowing(long... values) {
        BigInteger h = BigInteger.valueOf(18761);
        for (long value : values) {
            h = h.multiply(BigInteger.valueOf(31)).add(BigInteger.valueOf(value));
        }
        due(1, h.bitLength() > 64 ? 1 : 0, "whether the hash is beyond a long");
        return h.longValue();
    }

    private static void hashesWrapAround() {
        tell("promise 29: long arithmetic, overflow wraps");
        due(overflowing(0, 0, 0, 0, 0, 2000, 2000, 0, 0, 0, 0, 0, 0, 0, 250, 0, 0, 5, 1000, 50, 100, 1000, 0, 3),
            new ArcPlate().digest(), "digest of a new plate");
        ArcPlate plate = withTrails(1);
        due(overflowing(1, 0, 0, 1, 0, 2000, 2000, 0, 0, 0, 0, 0, 0, 0, 250, 0, 0, 5, 1000, 50, 100, 1000, 0, 3,
            0, NONE, NONE, NONE, NONE, NONE, 0, 0, NONE), plate.digest(), "digest with a trail without points");
        plate.addPoint(0, 1000, 4000, 0);
        // 2000 and -2000 off the pole.
        due(overflowing(2, 0, 0, 1, 0, 2000, 2000, 0, 0, 0, 0, 0, 1, 0, 250, 0, 0, 5, 1000, 50, 100, 1000, 0, 3,
            1, 2828, 0, 0, 0, 0, 0, 0, NONE, 1000, 4000, 0, 4000, 0, 2828, 315000), plate.digest(), "digest with a point");
        plate.addStar(100000, 359999, 9);
        due(overflowing(3, 0, 0, 1, 1, 2000, 2000, 0, 0, 0, 0, 1, 1, 0, 250, 0, 0, 5, 1000, 50, 100, 1000, 0, 3,
            1, 2828, 0, 0, 0, 0, 0, 0, NONE, 1000, 4000, 0, 4000, 0, 2828, 315000,
            100000, 359999, 9, 100000, NONE, NONE, 1), plate.digest(), "digest with a star");
        plate.setPole(-2000, 6000);
        run(plate, "set 10 0;");
        due(overflowing(4, 9, 2, 1, 1, -2000, 6000, 0, 0, 0, 0, 1, 1, 0, 250, 0, 0, 5, 1000, 50, 100, 1000, 0, 3,
            1, 8485, 0, 0, 0, 0, 0, 0, NONE, 1000, 4000, 0, 4000, 0, 8485, 315000,
            100000, 359999, 9, 100000, NONE, NONE, 1), plate.digest(), "digest with a text, a stop and four states");
        plate.set(0, -5000);
        due(overflowing(4, 9, 2, 1, 1, -2000, 6000, 0, 0, 0, 0, 1, 1, 0, -5000, 0, 0, 5, 1000, 50, 100, 1000, 0, 3,
            1, 8485, 0, 0, 0, 0, 0, 0, NONE, 1000, 4000, 0, 4000, 0, 8485, 315000,
            100000, 359999, 9, 100000, NONE, NONE, 1), plate.digest(), "digest with one state more, and a rate below 0");
    }

    private static void hashOfAMatch() {
        tell("promise 29: trails with their points, then stars, in their order");
        ArcPlate plate = around(10, 100, 0, 100, 100);
        plate.addStar(121, 50, 9);
        plate.addTrail();
        // Pole, two points and a star were saved, and a trail; radii 100 and 141, turns from 0 to 45000.
        due(overflowing(4, 0, 0, 2, 1, 2000, 2000, 41, 0, 1, 1, 0, 2, 0, 250, 0, 0, 5, 1000, 50, 100, 1000, 0, 3,
            2, 120, 41, 45000, 2500, 42500, 0, 0, 0, 0, 2100, 2000, 2100, 2000, 100, 0,
            10, 2100, 2100, 2100, 2100, 141, 45000, 0, NONE, NONE, NONE, NONE, NONE, 0, 0, NONE,
            121, 50, 9, 121, 0, 1, 0), plate.digest(), "digest with a match");
    }

    private static void digestTwice(String what, Supplier<ArcPlate> recipe) {
        ArcPlate plate = recipe.get();
        long first = plate.digest();
        due(first, plate.digest(), "digest of a " + what + " plate twice");
        due(first, recipe.get().digest(), "digest of a " + what + " plate made again");
    }

    private static void allCallsOfAnObject() {
        tell("an object is used for at most 512 calls: the 512th is answered like the others");
        ArcPlate plate = new ArcPlate();
        for (int n = 1; n <= 511; n++) {
            due(n == 1 ? 250 : n - 1, plate.set(0, n), "call " + n);
        }
        due(511, plate.setting(0), "call 512");
        ArcPlate other = new ArcPlate();
        for (int n = 1; n <= 508; n++) {
            other.set(0, n);
        }
        for (int n = 509; n <= 512; n++) {
            due(512 - n, other.undo(), "call " + n);
        }
    }

    public static void main(String[] args) {
        newObject();
        objectsByThemselves();
        atMostFourStates();
        undoMakesRoom();
        undoableCalls();
        undoableRuns();
        callsThatSaveNothing();
        undoLeavesTextAndStop();
        undoOfFullThings();
        undoOfChangesInARow();
        stops();
        hashesWrapAround();
        hashOfAMatch();
        digestTwice("busy", Checks::busyPlate);
        digestTwice("full", Checks::fullPlate);
        allCallsOfAnObject();
        end();
    }
}
