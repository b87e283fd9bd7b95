import java.util.function.Supplier;
import java.util.function.ToLongFunction;

/** What the test classes share: answers that are due, calls that must throw and change nothing, and plates to ask. */
class Checks {
    static final int NONE = ArcPlate.NONE;
    static final Class<IndexOutOfBoundsException> INDEX = IndexOutOfBoundsException.class;
    static final Class<IllegalArgumentException> ARGUMENT = IllegalArgumentException.class;
    static final Class<IllegalStateException> STATE = IllegalStateException.class;

    private static int wrong = 0;
    private static int checks = 0;
    private static String about = "";

    interface Call {
        long answer();
    }

    /** Names the promise or the sentence that the next checks are about. */
    static void tell(String sentence) {
        about = sentence;
    }

    private static void compare(Object want, Object got, String what) {
        checks++;
        if (!want.equals(got)) {
            wrong++;
            System.out.println(about + ": " + what + " answered " + got + ", due is " + want);
        }
    }

    static void due(long want, long got, String what) {
        compare(want, got, what);
    }

    static void due(String want, String got, String what) {
        compare(want, got, what);
    }

    private static String outcome(Call call) {
        try {
            return String.valueOf(call.answer());
        } catch (RuntimeException e) {
            return e.getClass().getSimpleName();
        }
    }

    /** The call throws just this exception, and the plate is as it was. */
    static void thrown(Class<? extends RuntimeException> want, ArcPlate plate, String what, Call call) {
        long before = plate.digest();
        compare(want.getSimpleName(), outcome(call), what);
        due(before, plate.digest(), "digest() after " + what);
    }

    static void noSuch(ArcPlate plate, String what, Call call) {
        thrown(INDEX, plate, what, call);
    }

    static void badValue(ArcPlate plate, String what, Call call) {
        thrown(ARGUMENT, plate, what, call);
    }

    static void badState(ArcPlate plate, String what, Call call) {
        thrown(STATE, plate, what, call);
    }

    /** The call throws just this exception, and nothing tells the plate from one on which it was not made. */
    static void refused(Class<? extends RuntimeException> want, Supplier<ArcPlate> recipe, String what,
            ToLongFunction<ArcPlate> call) {
        ArcPlate plate = recipe.get();
        compare(want.getSimpleName(), outcome(() -> call.applyAsLong(plate)), what);
        compare(story(recipe.get()), story(plate), "the plate after " + what);
    }

    /** The call answers something, and nothing tells the plate from one on which it was not made. */
    static void changesNothing(Supplier<ArcPlate> recipe, String what, ToLongFunction<ArcPlate> call) {
        ArcPlate plate = recipe.get();
        call.applyAsLong(plate);
        compare(story(recipe.get()), story(plate), "the plate after " + what);
    }

    /** All that a plate is: its state, its saved states and what its text does. The plate is used up by it. */
    static String story(ArcPlate plate) {
        StringBuilder told = new StringBuilder();
        told.append(plate.digest()).append(' ').append(plate.stop());
        for (int n = 0; n < 5; n++) {
            told.append(' ').append(outcome(plate::undo)).append(' ').append(plate.digest());
        }
        told.append(' ').append(plate.runCommands()).append(' ').append(plate.stop());
        told.append(' ').append(plate.digest()).append(' ').append(plate.clearCommands());
        return told.toString();
    }

    static void write(ArcPlate plate, String text) {
        plate.clearCommands();
        for (int i = 0; i < text.length(); i++) {
            plate.type(text.charAt(i));
        }
    }

    static int run(ArcPlate plate, String text) {
        write(plate, text);
        return plate.runCommands();
    }

    static ArcPlate withTrails(int trails) {
        ArcPlate plate = new ArcPlate();
        for (int t = 0; t < trails; t++) {
            plate.addTrail();
        }
        return plate;
    }

    /** One trail of points at (x, y) pairs, in frames step apart from 0 on. */
    static ArcPlate withPoints(int step, int... places) {
        ArcPlate plate = withTrails(1);
        for (int p = 0; 2 * p < places.length; p++) {
            plate.addPoint(0, p * step, places[2 * p], places[2 * p + 1]);
        }
        return plate;
    }

    /** As withPoints, but by places beside the pole, which stands where all of them are on the plate. */
    static ArcPlate around(int step, int... offsets) {
        int px = poleFor(offsets, 0);
        int py = poleFor(offsets, 1);
        ArcPlate plate = withTrails(1);
        plate.setPole(px, py);
        for (int p = 0; 2 * p < offsets.length; p++) {
            plate.addPoint(0, p * step, px + offsets[2 * p], py + offsets[2 * p + 1]);
        }
        return plate;
    }

    private static int poleFor(int[] offsets, int from) {
        if (offsets.length < 2) {
            return 2000;
        }
        int least = offsets[from];
        int most = offsets[from];
        for (int i = from; i < offsets.length; i += 2) {
            least = Math.min(least, offsets[i]);
            most = Math.max(most, offsets[i]);
        }
        return Math.min(Math.max(2000, -least), 4000 - most);
    }

    /** A plate with something of everything: four trails, two stars, a text, a stop, and four saved states. */
    static ArcPlate busyPlate() {
        ArcPlate plate = withTrails(3);
        plate.addPoint(0, 30, 2100, 2000);
        plate.addPoint(0, 60, 2090, 2040);
        plate.addPoint(0, 300, 2000, 2103);
        plate.addPoint(1, 500, 1500, 1400);
        plate.addStar(100, 358000, 4);
        plate.addStar(700, 123456, 8);
        run(plate, "trail;search 0;");
        write(plate, "set 4 77;trail;back 5;point 9 0 0 0;");
        plate.set(5, 300);
        plate.setPole(1999, 2002);
        plate.set(8, 11);
        return plate;
    }

    /** Some of everything by one run, so that just one state is saved. */
    static ArcPlate oneSaved() {
        ArcPlate plate = new ArcPlate();
        run(plate, "trail;trail;point 0 3 2100 2000;point 0 9 2000 2100;point 1 4 1 2;star 100 7 5;star 9 9 9;set 5 99;"
            + "back 3;");
        return plate;
    }

    /** A plate with 12 trails of 12 points each, and 12 stars. */
    static ArcPlate fullPlate() {
        ArcPlate plate = withTrails(12);
        for (int t = 0; t < 12; t++) {
            for (int p = 0; p < 12; p++) {
                plate.addPoint(t, 80 * p + t, (2477 * p + 613 * t) % 4001, (1201 * p + 997 * t) % 4001);
            }
        }
        for (int s = 0; s < 12; s++) {
            plate.addStar(300 * s + 7, 30000 * s, s % 10);
        }
        return plate;
    }

    static void dueTrail(ArcPlate plate, int trail, int... want) {
        for (int what = 0; what < want.length; what++) {
            due(want[what], plate.trail(trail, what), "value " + what + " of trail " + trail);
        }
    }

    static void dueStar(ArcPlate plate, int star, int... want) {
        for (int what = 0; what < want.length; what++) {
            due(want[what], plate.star(star, what), "value " + what + " of star " + star);
        }
    }

    static void dueWhole(ArcPlate plate, int... want) {
        for (int what = 0; what < want.length; what++) {
            due(want[what], plate.whole(what), "value " + what + " of the whole");
        }
    }

    static void dueSettings(ArcPlate plate, int... want) {
        for (int what = 0; what < want.length; what++) {
            due(want[what], plate.setting(what), "setting " + what);
        }
    }

    static void dueFrames(ArcPlate plate, int trail, int... want) {
        due(want.length, plate.trail(trail, 0), "points of trail " + trail);
        for (int p = 0; p < want.length; p++) {
            due(want[p], plate.point(trail, p, 0), "frame of point " + p);
        }
    }

    static long hash(long... values) {
        long h = 18761;
        for (long v : values) {
            h = 31 * h + v;
        }
        return h;
    }

    static void end() {
        System.out.println(checks + " checks, " + wrong + " wrong");
        if (wrong != 0) {
            System.exit(1);
        }
    }
}
