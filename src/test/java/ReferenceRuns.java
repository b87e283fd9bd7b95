import java.lang.reflect.InvocationTargetException;
import java.lang.reflect.Method;
import java.util.ArrayList;
import java.util.HashMap;
import java.util.List;
import java.util.Map;
import java.util.Random;

/**
 * Runs of calls drawn from fixed seeds, each made on an ArcPlate and on a ReferencePlate: every answer and every
 * exception must be the same. Arguments: the number of runs and the first seed (for longer hunts by hand).
 */
public final class ReferenceRuns {
    private static final int CALLS = 512;
    private static final String[] WORDS = {"trail", "point", "star", "pole", "set", "back", "search"};
    private static final int[] COUNTS = {0, 4, 3, 2, 2, 1, 1};
    private static final int[][] RANGES = {{-5000, 5000}, {-100, 100}, {-100, 100}, {0, 500}, {0, 180000},
        {0, 5000}, {1, 1000}, {1, 100000}, {0, 359999}, {0, 9}};

    private static final Map<String, Method> REAL = methods(ArcPlate.class);
    private static final Map<String, Method> REFERENCE = methods(ReferencePlate.class);
    private static int wrong = 0;

    private final Random dice;
    private final ArcPlate real = new ArcPlate();
    private final ReferencePlate reference = new ReferencePlate();
    private final List<String> made = new ArrayList<>();
    private boolean broken = false;

    private ReferenceRuns(long seed) {
        dice = new Random(seed);
    }

    private static Map<String, Method> methods(Class<?> of) {
        Map<String, Method> found = new HashMap<>();
        for (Method m : of.getDeclaredMethods()) {
            boolean face = of != ArcPlate.class || java.lang.reflect.Modifier.isPublic(m.getModifiers());
            if (face && !m.isSynthetic()) {
                m.setAccessible(true);
                // The reference has private helpers of the same names with other parameters.
                if (!java.lang.reflect.Modifier.isPrivate(m.getModifiers())) {
                    found.put(m.getName(), m);
                }
            }
        }
        return found;
    }

    private static String answer(Method method, Object on, Object[] args) {
        try {
            return String.valueOf(method.invoke(on, args));
        } catch (InvocationTargetException e) {
            return "throws." + e.getCause().getClass().getSimpleName();
        } catch (IllegalAccessException e) {
            throw new AssertionError(e);
        }
    }

    private boolean isOver() {
        return broken || made.size() >= CALLS;
    }

    private String call(String name, int... args) {
        if (isOver()) {
            return "";
        }
        Object[] boxed = new Object[args.length];
        for (int i = 0; i < args.length; i++) {
            boxed[i] = args[i];
        }
        String due = answer(REFERENCE.get(name), reference, boxed);
        String got = answer(REAL.get(name), real, boxed);
        String told = name + java.util.Arrays.toString(args);
        made.add(told + " => " + due);
        if (!due.equals(got)) {
            broken = true;
            wrong++;
            System.out.println(String.join("\n", made.subList(Math.max(0, made.size() - 40), made.size())));
            System.out.println("call " + made.size() + ": " + told + " answered " + got + ", due is " + due);
        }
        return due;
    }

    private int from(int least, int most) {
        return least + dice.nextInt(most - least + 1);
    }

    private boolean one(int in) {
        return dice.nextInt(in) == 0;
    }

    /** Mostly inside a range, often at its edges, seldom beyond them. */
    private int edgy(int least, int most) {
        switch (dice.nextInt(16)) {
            case 0:
                return least;
            case 1:
                return most;
            case 2:
                return one(3) ? least - 1 : least;
            case 3:
                return one(3) ? most + 1 : most;
            case 4:
                return one(6) ? (one(2) ? Integer.MIN_VALUE : Integer.MAX_VALUE) : least;
            default:
                return from(least, most);
        }
    }

    private int trail() {
        return one(20) ? from(-1, 12) : from(0, Math.max(0, reference.whole(0) - 1));
    }

    private int pointOf(int trail) {
        int points = trail >= 0 && trail < reference.whole(0) ? reference.trail(trail, 0) : 0;
        return one(20) ? from(-1, 12) : from(0, Math.max(0, points - 1));
    }

    private int star() {
        return one(20) ? from(-1, 12) : from(0, Math.max(0, reference.whole(1) - 1));
    }

    /** A plate as a camera would take it, with a hidden pole, and a catalog of it with other stars among its own. */
    private void takeSky() {
        int px = from(1700, 2300);
        int py = from(1700, 2300);
        int rate = one(2) ? 250 : from(-800, 800);
        int noise = from(0, 3);
        int u = one(2) ? 0 : from(-60, 60);
        int v = one(2) ? 0 : from(-60, 60);
        call("set", 0, rate);
        int trails = from(1, 8);
        for (int t = 0; t < trails; t++) {
            call("addTrail");
            double radius = from(5, 1600);
            int angle = from(0, 359999);
            int frame = from(0, 60);
            int points = from(0, 6);
            for (int p = 0; p < points; p++) {
                double turned = Math.toRadians((angle + (double) rate * frame) / 1000);
                int x = (int) Math.round(px + radius * Math.cos(turned) + u * frame / 100.0) + from(-noise, noise);
                int y = (int) Math.round(py + radius * Math.sin(turned) + v * frame / 100.0) + from(-noise, noise);
                call("addPoint", t, frame, x, y);
                frame += from(1, 120);
            }
            if (!one(4)) {
                int off = one(3) ? from(0, 3) * 100 : 0;
                call("addStar", (int) radius + from(0, 3), Math.floorMod(angle + off, 360000), from(0, 9));
            }
        }
        for (int s = from(0, 3); s > 0; s--) {
            call("addStar", from(1, 2000), from(0, 359999), from(0, 9));
        }
        if (one(2)) {
            call("setPole", px, py);
        } else {
            call("search", from(1, 512));
        }
        if (one(2)) {
            call("set", 1, u + from(-3, 3));
            call("set", 2, v + from(-3, 3));
        }
        call("set", 3, from(0, 60));
        call("set", 4, from(0, 20000));
        call("set", 5, from(0, 600));
    }

    /** Few places and angles, so that costs are often equal. */
    private void takeContest() {
        call("set", 0, from(-1, 1) * 90000 / 100);
        call("set", 5, one(2) ? 5000 : from(0, 300));
        call("set", 9, from(0, 3));
        int trails = from(2, 12);
        for (int t = 0; t < trails; t++) {
            call("addTrail");
            int points = from(0, 3);
            for (int p = 0; p < points; p++) {
                call("addPoint", t, 100 * from(0, 4), 2000 + 100 * from(-1, 1), 2000 + 100 * from(-1, 1));
            }
        }
        int stars = from(1, 12);
        for (int s = 0; s < stars; s++) {
            call("addStar", 100 + 41 * from(0, 1), from(0, 7) * 45000, from(0, 4));
        }
    }

    private void change() {
        switch (dice.nextInt(12)) {
            case 0:
                call("addTrail");
                break;
            case 1:
                if (one(3)) {
                    call("removeTrail", trail());
                }
                break;
            case 2, 3:
                call("addPoint", trail(), edgy(0, 1000), edgy(0, 4000), edgy(0, 4000));
                break;
            case 4:
                int t = trail();
                call("removePoint", t, pointOf(t));
                break;
            case 5, 6:
                changeSetting();
                break;
            case 7:
                call("setPole", edgy(-2000, 6000), edgy(-2000, 6000));
                break;
            case 8:
                call("search", edgy(1, 512));
                break;
            case 9:
                call("addStar", edgy(1, 100000), edgy(0, 359999), edgy(0, 9));
                break;
            case 10:
                if (one(3)) {
                    call("removeStar", star());
                }
                break;
            default:
                for (int n = from(1, 5); n > 0; n--) {
                    call("undo");
                }
                break;
        }
    }

    private void changeSetting() {
        int what = edgy(0, 9);
        int[] range = what >= 0 && what <= 9 ? RANGES[what] : RANGES[0];
        if (what == 7 && !one(3)) {
            call("set", what, from(990, 1010));
        } else if (what == 5 && !one(3)) {
            call("set", what, from(0, 900));
        } else {
            call("set", what, edgy(range[0], range[1]));
        }
    }

    private void ask() {
        switch (dice.nextInt(14)) {
            case 0:
                int t = trail();
                call("point", t, pointOf(t), edgy(0, 6));
                break;
            case 1, 2:
                call("trail", trail(), edgy(0, 8));
                break;
            case 3, 4:
                call("star", star(), edgy(0, 6));
                break;
            case 5:
                call("starAngle", star(), edgy(0, 1000));
                break;
            case 6:
                call("cost", trail(), star());
                break;
            case 7:
                call("missing", edgy(0, 3));
                break;
            case 8:
                call("setting", edgy(0, 9));
                break;
            case 9:
                call("whole", edgy(0, 10));
                break;
            case 10:
                call("costAt", edgy(-2000, 6000), edgy(-2000, 6000));
                break;
            case 11:
                call(one(2) ? "meanRate" : "meanScale");
                break;
            case 12:
                call("bestZero");
                break;
            default:
                call("bestDrift", edgy(0, 5));
                break;
        }
    }

    private String spaces(int least) {
        return " ".repeat(one(4) ? from(least, 2) : least);
    }

    private String number(int least, int most) {
        String digits = String.valueOf(Math.max(0, edgy(least, Math.min(999999, most))));
        return one(6) && digits.length() < 6 ? "0".repeat(from(1, 6 - digits.length())) + digits : digits;
    }

    private String command() {
        int kind = dice.nextInt(WORDS.length);
        int what = from(0, 9);
        int[][] ranges = {{}, {0, 2, 0, 1000, 0, 4000, 0, 4000}, {1, 100000, 0, 359999, 0, 9}, {0, 6000, 0, 6000},
            {what, what, Math.max(0, RANGES[what][0]), RANGES[what][1]}, {0, 5000}, {1, 512}};
        StringBuilder text = new StringBuilder(WORDS[kind]);
        for (int n = 0; n < COUNTS[kind]; n++) {
            text.append(spaces(1)).append(number(ranges[kind][2 * n], ranges[kind][2 * n + 1]));
        }
        return text.append(spaces(0)).append(';').toString();
    }

    private String corrupted(String text) {
        StringBuilder changed = new StringBuilder(text);
        int at = from(0, text.length());
        String signs = " ;0123456789abtrailzA{`/:-\t\0\177";
        char sign = signs.charAt(dice.nextInt(signs.length()));
        switch (dice.nextInt(4)) {
            case 0:
                changed.insert(at, sign);
                break;
            case 1:
                changed.setLength(at);
                break;
            case 2:
                if (at < text.length()) {
                    changed.deleteCharAt(at);
                }
                break;
            default:
                if (at < text.length()) {
                    changed.setCharAt(at, sign);
                }
                break;
        }
        return changed.toString();
    }

    private void write() {
        StringBuilder text = new StringBuilder(spaces(0));
        int most = from(0, 90);
        while (text.length() < most) {
            text.append(command()).append(spaces(0));
        }
        String written = one(2) ? corrupted(text.toString()) : text.toString();
        call("clearCommands");
        for (int i = 0; i < written.length(); i++) {
            call("type", written.charAt(i));
            if (one(40)) {
                call("runCommands");
            }
        }
        call("runCommands");
        call("stop");
        call("digest");
        if (one(3)) {
            call("type", edgy(0, 127));
        }
        if (one(2)) {
            call("runCommands");
            call("undo");
        }
    }

    /** A text up to its last byte, and one byte more. */
    private void writeFull() {
        String text = "trail;" + " ".repeat(130) + "set 3 0007;" + "back 12345678".repeat(2);
        for (int i = 0; i < 151; i++) {
            call("type", text.charAt(i));
        }
        call("runCommands");
        call("digest");
    }

    private void play(int kind) {
        if (kind == 0) {
            takeSky();
        } else if (kind == 1) {
            takeContest();
        } else if (kind == 2) {
            call("addTrail");
            if (one(4)) {
                writeFull();
            }
        }
        while (!isOver()) {
            int next = dice.nextInt(10);
            if (kind == 2 ? next < 6 : one(60)) {
                write();
            } else if (next < (kind == 3 ? 6 : 3)) {
                change();
            } else {
                ask();
            }
            if (one(30)) {
                call("digest");
            }
        }
    }

    public static void main(String[] args) {
        int runs = args.length > 0 ? Integer.parseInt(args[0]) : 160;
        long first = args.length > 1 ? Long.parseLong(args[1]) : 1;
        int calls = 0;
        for (int run = 0; run < runs && wrong < 3; run++) {
            ReferenceRuns one = new ReferenceRuns(first + run);
            one.play(run % 4);
            calls += one.made.size();
            if (one.broken) {
                System.out.println("in the run of seed " + (first + run) + ", kind " + run % 4);
            }
        }
        System.out.println(calls + " calls compared, " + wrong + " runs differ");
        if (wrong != 0) {
            System.exit(1);
        }
    }
}
