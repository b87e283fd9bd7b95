import java.lang.reflect.InvocationTargetException;
import java.util.Arrays;
import java.util.function.Supplier;

/**
 * Every argument of every call at both ends of its range, just beyond them, and as far off as an int goes; and of
 * several exceptions the one that is listed first. A call that throws changes nothing, and neither does one that asks.
 */
public final class ArgumentEdgeTest extends Checks {
    private static final int[][] SETTINGS = {{-5000, 5000}, {-100, 100}, {-100, 100}, {0, 500}, {0, 180000},
        {0, 5000}, {1, 1000}, {1, 100000}, {0, 359999}, {0, 9}};

    private static int[] row(int... values) {
        return values;
    }

    private static long call(ArcPlate plate, String name, int... args) {
        Class<?>[] types = new Class<?>[args.length];
        Arrays.fill(types, int.class);
        Object[] boxed = Arrays.stream(args).boxed().toArray();
        try {
            return ((Number) ArcPlate.class.getMethod(name, types).invoke(plate, boxed)).longValue();
        } catch (InvocationTargetException e) {
            if (e.getCause() instanceof RuntimeException thrown) {
                throw thrown;
            }
            throw new AssertionError(e);
        } catch (ReflectiveOperationException e) {
            throw new AssertionError(e);
        }
    }

    private static String told(String name, int[] args) {
        return name + Arrays.toString(args);
    }

    private static int[] with(int[] good, int at, int value) {
        int[] args = good.clone();
        args[at] = value;
        return args;
    }

    private static void refusedCall(Class<? extends RuntimeException> want, Supplier<ArcPlate> recipe, String name,
            int... args) {
        refused(want, recipe, told(name, args), plate -> call(plate, name, args));
    }

    /** One argument of a call whose others are good: taken from least to most, refused beyond. */
    private static void argument(Class<? extends RuntimeException> want, String name, int[] good, int at, int... ends) {
        int least = ends[0];
        int most = ends[1];
        for (int value : row(least, most)) {
            int[] args = with(good, at, value);
            due("taken", outcomeOf(name, args), told(name, args));
        }
        refusedCall(want, Checks::busyPlate, name, with(good, at, least - 1));
        refusedCall(want, Checks::busyPlate, name, with(good, at, Integer.MIN_VALUE));
        if (most < Integer.MAX_VALUE) {
            refusedCall(want, Checks::busyPlate, name, with(good, at, most + 1));
            refusedCall(want, Checks::busyPlate, name, with(good, at, Integer.MAX_VALUE));
        }
    }

    private static String outcomeOf(String name, int[] args) {
        try {
            call(busyPlate(), name, args);
            return "taken";
        } catch (RuntimeException e) {
            return e.getClass().getSimpleName();
        }
    }

    private static void changesOfTrails() {
        tell("promise 3: trail, number of a trail");
        argument(INDEX, "removeTrail", row(0), 0, 0, 3);
        tell("promise 4: trail, frame 0 to 1000, x and y 0 to 4000");
        int[] point = {0, 500, 10, 20};
        argument(INDEX, "addPoint", point, 0, 0, 3);
        argument(ARGUMENT, "addPoint", point, 1, 0, 1000);
        argument(ARGUMENT, "addPoint", point, 2, 0, 4000);
        argument(ARGUMENT, "addPoint", point, 3, 0, 4000);
        tell("promise 5: number of a trail and of a point");
        // Only trails 0 and 1 have points.
        argument(INDEX, "removePoint", row(0, 0), 0, 0, 1);
        argument(INDEX, "removePoint", row(0, 0), 1, 0, 2);
        argument(INDEX, "removePoint", row(1, 0), 1, 0, 0);
    }

    private static void changesOfSettings() {
        tell("promise 6: what 0 to 9, value in its range");
        argument(ARGUMENT, "set", row(0, 5), 0, 0, 9);
        for (int what = 0; what < SETTINGS.length; what++) {
            argument(ARGUMENT, "set", row(what, 5), 1, SETTINGS[what]);
        }
        tell("promise 7: x and y -2000 to 6000");
        argument(ARGUMENT, "setPole", row(0, 0), 0, -2000, 6000);
        argument(ARGUMENT, "setPole", row(0, 0), 1, -2000, 6000);
        tell("promise 8: step 1 to 512");
        argument(ARGUMENT, "search", row(1), 0, 1, 512);
        tell("promise 9: radius 1 to 100000, angle 0 to 359999, brightness 0 to 9");
        argument(ARGUMENT, "addStar", row(100, 100, 5), 0, 1, 100000);
        argument(ARGUMENT, "addStar", row(100, 100, 5), 1, 0, 359999);
        argument(ARGUMENT, "addStar", row(100, 100, 5), 2, 0, 9);
        tell("promise 10: number of a star");
        argument(INDEX, "removeStar", row(0), 0, 0, 1);
    }

    private static void values() {
        tell("promise 11: number of a trail and of a point, what 0 to 6");
        argument(INDEX, "point", row(0, 0, 0), 0, 0, 1);
        argument(INDEX, "point", row(0, 0, 0), 1, 0, 2);
        argument(ARGUMENT, "point", row(0, 0, 0), 2, 0, 6);
        tell("promise 12: number of a trail, what 0 to 8");
        argument(INDEX, "trail", row(0, 0), 0, 0, 3);
        argument(ARGUMENT, "trail", row(0, 0), 1, 0, 8);
        tell("promise 13: number of a star, what 0 to 6");
        argument(INDEX, "star", row(0, 0), 0, 0, 1);
        argument(ARGUMENT, "star", row(0, 0), 1, 0, 6);
        tell("promise 14: number of a star, frame 0 to 1000");
        argument(INDEX, "starAngle", row(0, 0), 0, 0, 1);
        argument(ARGUMENT, "starAngle", row(0, 0), 1, 0, 1000);
        tell("promise 15: number of a trail and of a star");
        argument(INDEX, "cost", row(0, 0), 0, 0, 3);
        argument(INDEX, "cost", row(0, 0), 1, 0, 1);
        tell("promise 16: index not negative");
        argument(ARGUMENT, "missing", row(0), 0, 0, Integer.MAX_VALUE);
        tell("promise 17: what 0 to 9");
        argument(ARGUMENT, "setting", row(0), 0, 0, 9);
        tell("promise 18: what 0 to 10");
        argument(ARGUMENT, "whole", row(0), 0, 0, 10);
    }

    private static void whatIfAndText() {
        tell("promise 19: x and y -2000 to 6000");
        argument(ARGUMENT, "costAt", row(0, 0), 0, -2000, 6000);
        argument(ARGUMENT, "costAt", row(0, 0), 1, -2000, 6000);
        tell("promise 23: most 0 to 5");
        argument(ARGUMENT, "bestDrift", row(0), 0, 0, 5);
        tell("promise 24: value 0 to 127");
        argument(ARGUMENT, "type", row(0), 0, 0, 127);
    }

    /** Frames 0, 80, .. of trail 0 are taken, and there is no room for one more anywhere. */
    private static ArcPlate fullPlateAndText() {
        ArcPlate plate = fullPlate();
        write(plate, "trail;".repeat(25));
        return plate;
    }

    private static void fullThings() {
        tell("promise 2: there are 12 trails");
        refusedCall(STATE, Checks::fullPlate, "addTrail");
        tell("promise 4: the trail has 12 points, or one with this frame");
        refusedCall(STATE, Checks::fullPlate, "addPoint", 0, 1, 0, 0);
        refusedCall(STATE, Checks::fullPlate, "addPoint", 11, 0, 4000, 4000);
        refusedCall(STATE, Checks::fullPlate, "addPoint", 0, 80, 0, 0);
        refusedCall(STATE, Checks::busyPlate, "addPoint", 0, 30, 2100, 2000);
        refusedCall(STATE, Checks::busyPlate, "addPoint", 0, 300, 0, 0);
        tell("promise 9: there are 12 stars");
        refusedCall(STATE, Checks::fullPlate, "addStar", 1, 0, 0);
        refusedCall(STATE, Checks::fullPlate, "addStar", 100000, 359999, 9);
        tell("promise 24: the text has 150 bytes");
        refusedCall(STATE, ArgumentEdgeTest::fullPlateAndText, "type", 0);
        refusedCall(STATE, ArgumentEdgeTest::fullPlateAndText, "type", 127);
        tell("promise 28: the stack is empty");
        refusedCall(STATE, ArcPlate::new, "undo");
    }

    private static void emptyThings() {
        tell("an empty plate has no trail, point or star");
        String[] calls = {"removeTrail", "removePoint", "removeStar", "point", "trail", "star", "starAngle", "cost"};
        int[] counts = {1, 2, 1, 3, 2, 2, 2, 2};
        for (int i = 0; i < calls.length; i++) {
            refusedCall(INDEX, ArcPlate::new, calls[i], new int[counts[i]]);
        }
        refusedCall(INDEX, ArcPlate::new, "addPoint", 0, 0, 0, 0);
        tell("an empty trail has no point");
        refusedCall(INDEX, () -> withTrails(1), "removePoint", 0, 0);
        refusedCall(INDEX, () -> withTrails(1), "point", 0, 0, 0);
        tell("an empty catalog has no star");
        refusedCall(INDEX, () -> withPoints(1, 5, 5), "cost", 0, 0);
    }

    /** The call with each of some arguments made bad, alone and all at once. */
    private static void first(Class<? extends RuntimeException> want, Supplier<ArcPlate> recipe, String name,
            int[] args, int[]... bad) {
        int[] all = args.clone();
        for (int[] one : bad) {
            refusedCall(want, recipe, name, with(args, one[0], one[1]));
            all[one[0]] = one[1];
        }
        refusedCall(want, recipe, name, all);
    }

    private static void listedFirst() {
        int[][] badPoint = {{1, -1}, {1, 1001}, {2, -1}, {2, 4001}, {3, -1}, {3, 4001}};
        tell("promise 4: no such trail before an argument out of range");
        first(INDEX, Checks::busyPlate, "addPoint", row(4, 500, 0, 0), badPoint);
        first(INDEX, Checks::fullPlate, "addPoint", row(-1, 500, 0, 0), badPoint);
        tell("promise 4: an argument out of range before a full trail");
        first(ARGUMENT, Checks::fullPlate, "addPoint", row(0, 1, 0, 0), badPoint);
        tell("promise 4: an argument out of range before the same frame");
        first(ARGUMENT, Checks::busyPlate, "addPoint", row(0, 30, 0, 0), row(2, -1), row(2, 4001), row(3, -1), row(3, 4001));
        tell("promise 9: an argument out of range before a full catalog");
        first(ARGUMENT, Checks::fullPlate, "addStar", row(1, 0, 0), row(0, 0), row(0, 100001), row(1, -1), row(1, 360000),
            row(2, -1), row(2, 10));
        tell("promise 11: no such trail or point before a value that is out of range");
        first(INDEX, Checks::busyPlate, "point", row(4, 0, 0), row(2, -1), row(2, 7));
        first(INDEX, Checks::busyPlate, "point", row(0, 3, 0), row(2, -1), row(2, 7));
        first(INDEX, Checks::busyPlate, "point", row(-1, -1, 0), row(2, -1), row(2, 7));
        tell("promise 12: no such trail before a value that is out of range");
        first(INDEX, Checks::busyPlate, "trail", row(4, 0), row(1, -1), row(1, 9));
        tell("promise 13: no such star before a value that is out of range");
        first(INDEX, Checks::busyPlate, "star", row(2, 0), row(1, -1), row(1, 7));
        tell("promise 14: no such star before a frame that is out of range");
        first(INDEX, Checks::busyPlate, "starAngle", row(2, 0), row(1, -1), row(1, 1001));
        tell("promise 24: a byte out of range before a full text");
        first(ARGUMENT, ArgumentEdgeTest::fullPlateAndText, "type", row(' '), row(0, -1), row(0, 128));
    }

    private static void noneOnlyWithoutException() {
        tell("NONE is returned only if no exception applies");
        // Trail 2 has no points.
        due(NONE, busyPlate().cost(2, 1), "cost of a trail without points");
        refusedCall(INDEX, Checks::busyPlate, "cost", 2, 2);
        refusedCall(INDEX, Checks::busyPlate, "cost", 2, -1);
        due(NONE, busyPlate().trail(2, 1), "radius of a trail without points");
        refusedCall(ARGUMENT, Checks::busyPlate, "trail", 2, 9);
        refusedCall(ARGUMENT, Checks::busyPlate, "trail", 2, -1);
        due(NONE, new ArcPlate().missing(0), "missing of none");
        refusedCall(ARGUMENT, ArcPlate::new, "missing", -1);
        refusedCall(ARGUMENT, Checks::busyPlate, "star", 0, 7);
    }

    private static void asked(String name, int... args) {
        changesNothing(Checks::busyPlate, told(name, args), plate -> call(plate, name, args));
        changesNothing(Checks::fullPlate, told(name, args), plate -> call(plate, name, args));
    }

    private static void askingChangesNothing() {
        tell("values and what if change nothing");
        for (int what = 0; what <= 10; what++) {
            asked("whole", what);
        }
        for (int what = 0; what <= 8; what++) {
            asked("trail", 0, what);
            asked("setting", what);
        }
        for (int what = 0; what <= 6; what++) {
            asked("point", 0, 2, what);
            asked("star", 1, what);
        }
        asked("starAngle", 1, 1000);
        asked("cost", 0, 1);
        asked("missing", 0);
        asked("missing", Integer.MAX_VALUE);
        asked("costAt", -2000, 6000);
        asked("meanRate");
        asked("meanScale");
        asked("bestZero");
        asked("bestDrift", 0);
        asked("bestDrift", 5);
        asked("stop");
        asked("digest");
    }

    public static void main(String[] args) {
        changesOfTrails();
        changesOfSettings();
        values();
        whatIfAndText();
        fullThings();
        emptyThings();
        listedFirst();
        noneOnlyWithoutException();
        askingChangesNothing();
        end();
    }
}
