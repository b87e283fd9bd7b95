import java.util.ArrayDeque;
import java.util.ArrayList;
import java.util.List;

/**
 * The document once more, as plainly as it can be said and with nothing kept between calls: what ReferenceRuns
 * compares ArcPlate with. It shares no code with ArcPlate on purpose.
 */
final class ReferencePlate {
    static final int NONE = -1000000000;

    private static final int[][] RANGES = {{-5000, 5000}, {-100, 100}, {-100, 100}, {0, 500}, {0, 180000},
        {0, 5000}, {1, 1000}, {1, 100000}, {0, 359999}, {0, 9}};
    private static final int[] T = {45000, 26565, 14036, 7125, 3576, 1790, 895, 448, 224, 112, 56, 28, 14, 7, 3, 2};

    /** frame, x, y */
    private record Point(int frame, int x, int y) { }

    private record Star(int radius, int angle, int light) { }

    private record Pair(int trail, int star, long cost) { }

    private record Command(String word, List<Integer> numbers) { }

    private static final class State {
        List<List<Point>> trails = new ArrayList<>();
        List<Star> stars = new ArrayList<>();
        int px = 2000;
        int py = 2000;
        int[] settings = {250, 0, 0, 5, 1000, 50, 100, 1000, 0, 3};

        State copy() {
            State c = new State();
            for (List<Point> trail : trails) {
                c.trails.add(new ArrayList<>(trail));
            }
            c.stars.addAll(stars);
            c.px = px;
            c.py = py;
            c.settings = settings.clone();
            return c;
        }
    }

    private State now = new State();
    private final ArrayDeque<State> undoable = new ArrayDeque<>();
    private String text = "";
    private int stop = 0;
    private boolean inRun = false;

    private void save() {
        if (!inRun) {
            undoable.addLast(now.copy());
            if (undoable.size() > 4) {
                undoable.removeFirst();
            }
        }
    }

    private static void index(boolean there) {
        if (!there) {
            throw new IndexOutOfBoundsException();
        }
    }

    private static void argument(boolean good) {
        if (!good) {
            throw new IllegalArgumentException();
        }
    }

    private static void state(boolean good) {
        if (!good) {
            throw new IllegalStateException();
        }
    }

    private static boolean in(int v, int a, int b) {
        return a <= v && v <= b;
    }

    private boolean isTrail(int t) {
        return in(t, 0, now.trails.size() - 1);
    }

    private boolean isPoint(int t, int p) {
        return isTrail(t) && in(p, 0, now.trails.get(t).size() - 1);
    }

    private boolean isStar(int s) {
        return in(s, 0, now.stars.size() - 1);
    }

    int addTrail() {
        state(now.trails.size() < 12);
        save();
        now.trails.add(new ArrayList<>());
        return now.trails.size() - 1;
    }

    int removeTrail(int t) {
        index(isTrail(t));
        save();
        now.trails.remove(t);
        return now.trails.size();
    }

    int addPoint(int t, int frame, int x, int y) {
        index(isTrail(t));
        argument(in(frame, 0, 1000) && in(x, 0, 4000) && in(y, 0, 4000));
        List<Point> trail = now.trails.get(t);
        state(trail.size() < 12 && trail.stream().noneMatch(p -> p.frame() == frame));
        save();
        Point added = new Point(frame, x, y);
        trail.add(added);
        trail.sort((a, b) -> a.frame() - b.frame());
        return trail.indexOf(added);
    }

    int removePoint(int t, int p) {
        index(isPoint(t, p));
        save();
        now.trails.get(t).remove(p);
        return now.trails.get(t).size();
    }

    int set(int what, int value) {
        argument(in(what, 0, 9) && in(value, RANGES[what][0], RANGES[what][1]));
        save();
        int before = now.settings[what];
        now.settings[what] = value;
        return before;
    }

    private static boolean isPole(int x, int y) {
        return in(x, -2000, 6000) && in(y, -2000, 6000);
    }

    int setPole(int x, int y) {
        argument(isPole(x, y));
        save();
        now.px = x;
        now.py = y;
        return plateCost(x, y, now.settings[1], now.settings[2]);
    }

    int search(int step) {
        argument(in(step, 1, 512));
        save();
        int moves = 0;
        int s = step;
        while (s > 0) {
            int taken = Integer.MAX_VALUE;
            int x = 0;
            int y = 0;
            for (int j = -1; j <= 1; j++) {
                for (int i = -1; i <= 1; i++) {
                    if (i == 0 && j == 0 || !isPole(now.px + i * s, now.py + j * s)) {
                        continue;
                    }
                    int c = costAt(now.px + i * s, now.py + j * s);
                    if (c < taken) {
                        taken = c;
                        x = now.px + i * s;
                        y = now.py + j * s;
                    }
                }
            }
            if (taken < costAt(now.px, now.py)) {
                now.px = x;
                now.py = y;
                moves++;
            } else {
                s = s / 2;
            }
        }
        return moves;
    }

    int addStar(int radius, int angle, int light) {
        argument(in(radius, 1, 100000) && in(angle, 0, 359999) && in(light, 0, 9));
        state(now.stars.size() < 12);
        save();
        now.stars.add(new Star(radius, angle, light));
        return now.stars.size() - 1;
    }

    int removeStar(int s) {
        index(isStar(s));
        save();
        now.stars.remove(s);
        return now.stars.size();
    }

    /** The angle of a place seen from the pole, with floors taken by floorDiv. */
    private static int angle(int dx, int dy) {
        if (dx == 0 && dy == 0) {
            return 0;
        }
        long a = 0;
        long x = 1024L * dx;
        long y = 1024L * dy;
        if (x < 0) {
            x = -x;
            y = -y;
            a = 180000;
        }
        long power = 1;
        for (int t : T) {
            long oldX = x;
            long oldY = y;
            if (oldY > 0) {
                x = oldX + Math.floorDiv(oldY, power);
                y = oldY - Math.floorDiv(oldX, power);
                a += t;
            } else if (oldY < 0) {
                x = oldX - Math.floorDiv(oldY, power);
                y = oldY + Math.floorDiv(oldX, power);
                a -= t;
            }
            power *= 2;
        }
        return (int) Math.floorMod(a, 360000L);
    }

    private static int root(long n) {
        long r = (long) Math.sqrt((double) n);
        while (r * r > n) {
            r--;
        }
        while ((r + 1) * (r + 1) <= n) {
            r++;
        }
        return (int) r;
    }

    private int placeX(Point p, int u) {
        return p.x() - Math.floorDiv(u * p.frame(), 100);
    }

    private int placeY(Point p, int v) {
        return p.y() - Math.floorDiv(v * p.frame(), 100);
    }

    private int radius(Point p, int px, int py, int u, int v) {
        long dx = placeX(p, u) - px;
        long dy = placeY(p, v) - py;
        return root(dx * dx + dy * dy);
    }

    private int radius(Point p) {
        return radius(p, now.px, now.py, now.settings[1], now.settings[2]);
    }

    private int angle(Point p) {
        return angle(placeX(p, now.settings[1]) - now.px, placeY(p, now.settings[2]) - now.py);
    }

    private int spread(List<Point> trail, int px, int py, int u, int v) {
        int most = trail.stream().mapToInt(p -> radius(p, px, py, u, v)).max().getAsInt();
        int least = trail.stream().mapToInt(p -> radius(p, px, py, u, v)).min().getAsInt();
        return most - least;
    }

    private int plateCost(int px, int py, int u, int v) {
        int sum = 0;
        for (List<Point> trail : now.trails) {
            if (trail.size() >= 2) {
                sum += spread(trail, px, py, u, v);
            }
        }
        return sum;
    }

    private static int turn(int from, int to) {
        int d = to - from;
        while (d <= -180000) {
            d += 360000;
        }
        while (d > 180000) {
            d -= 360000;
        }
        return d;
    }

    int point(int t, int p, int what) {
        index(isPoint(t, p));
        argument(in(what, 0, 6));
        Point point = now.trails.get(t).get(p);
        int[] values = {point.frame(), point.x(), point.y(), placeX(point, now.settings[1]),
            placeY(point, now.settings[2]), radius(point), angle(point)};
        return values[what];
    }

    private int trailRadius(int t) {
        List<Point> trail = now.trails.get(t);
        return trail.stream().mapToInt(this::radius).sum() / trail.size();
    }

    private int sweep(int t) {
        List<Point> trail = now.trails.get(t);
        int sum = 0;
        for (int p = 1; p < trail.size(); p++) {
            sum += turn(angle(trail.get(p - 1)), angle(trail.get(p)));
        }
        return sum;
    }

    private int span(int t) {
        List<Point> trail = now.trails.get(t);
        return trail.get(trail.size() - 1).frame() - trail.get(0).frame();
    }

    private int misfit(int t) {
        return Math.abs(sweep(t) - now.settings[0] * span(t));
    }

    private boolean good(int t) {
        List<Point> trail = now.trails.get(t);
        return trail.size() >= 2
            && spread(trail, now.px, now.py, now.settings[1], now.settings[2]) <= now.settings[3]
            && misfit(t) <= now.settings[4];
    }

    private int gaps(int t) {
        List<Point> trail = now.trails.get(t);
        int gaps = 0;
        for (int p = 1; p < trail.size(); p++) {
            if (trail.get(p).frame() - trail.get(p - 1).frame() > now.settings[6]) {
                gaps++;
            }
        }
        return gaps;
    }

    private long pairCost(int t, int s, int zero) {
        Star star = now.stars.get(s);
        Point first = now.trails.get(t).get(0);
        long apart = Math.abs(trailRadius(t) - (long) star.radius() * now.settings[7] / 1000);
        int there = Math.floorMod(star.angle() + zero + now.settings[0] * first.frame(), 360000);
        return apart + Math.abs((long) turn(angle(first), there)) * trailRadius(t) / 57296;
    }

    /** All pairs sorted by cost, trail and star; each one taken if both are still free. */
    private List<Pair> matches(int zero) {
        List<Pair> pairs = new ArrayList<>();
        for (int t = 0; t < now.trails.size(); t++) {
            for (int s = 0; s < now.stars.size(); s++) {
                if (!now.trails.get(t).isEmpty()) {
                    Pair pair = new Pair(t, s, pairCost(t, s, zero));
                    if (pair.cost() <= now.settings[5]) {
                        pairs.add(pair);
                    }
                }
            }
        }
        pairs.sort((a, b) -> a.cost() != b.cost() ? Long.compare(a.cost(), b.cost())
            : a.trail() != b.trail() ? a.trail() - b.trail() : a.star() - b.star());
        List<Pair> taken = new ArrayList<>();
        for (Pair pair : pairs) {
            if (taken.stream().noneMatch(m -> m.trail() == pair.trail() || m.star() == pair.star())) {
                taken.add(pair);
            }
        }
        return taken;
    }

    private List<Pair> matches() {
        return matches(now.settings[8]);
    }

    private boolean isMissing(int s) {
        return matches().stream().noneMatch(m -> m.star() == s) && now.stars.get(s).light() >= now.settings[9];
    }

    int trail(int t, int what) {
        index(isTrail(t));
        argument(in(what, 0, 8));
        List<Point> trail = now.trails.get(t);
        if (what == 8) {
            return matches().stream().filter(m -> m.trail() == t).mapToInt(Pair::star).findAny().orElse(NONE);
        }
        if (trail.isEmpty()) {
            return what >= 1 && what <= 5 ? NONE : 0;
        }
        return switch (what) {
            case 0 -> trail.size();
            case 1 -> trailRadius(t);
            case 2 -> spread(trail, now.px, now.py, now.settings[1], now.settings[2]);
            case 3 -> sweep(t);
            case 4 -> now.settings[0] * span(t);
            case 5 -> misfit(t);
            case 6 -> good(t) ? 1 : 0;
            default -> gaps(t);
        };
    }

    int star(int s, int what) {
        index(isStar(s));
        argument(in(what, 0, 6));
        Star star = now.stars.get(s);
        List<Pair> own = matches().stream().filter(m -> m.star() == s).toList();
        return switch (what) {
            case 0 -> star.radius();
            case 1 -> star.angle();
            case 2 -> star.light();
            case 3 -> (int) ((long) star.radius() * now.settings[7] / 1000);
            case 4 -> own.isEmpty() ? NONE : own.get(0).trail();
            case 5 -> own.isEmpty() ? NONE : (int) own.get(0).cost();
            default -> isMissing(s) ? 1 : 0;
        };
    }

    int starAngle(int s, int frame) {
        index(isStar(s));
        argument(in(frame, 0, 1000));
        int a = now.stars.get(s).angle() + now.settings[8] + now.settings[0] * frame;
        while (a < 0) {
            a += 360000;
        }
        while (a >= 360000) {
            a -= 360000;
        }
        return a;
    }

    int cost(int t, int s) {
        index(isTrail(t) && isStar(s));
        return now.trails.get(t).isEmpty() ? NONE : (int) pairCost(t, s, now.settings[8]);
    }

    int missing(int index) {
        argument(index >= 0);
        List<Integer> all = new ArrayList<>();
        for (int s = 0; s < now.stars.size(); s++) {
            if (isMissing(s)) {
                all.add(s);
            }
        }
        return index < all.size() ? all.get(index) : NONE;
    }

    int setting(int what) {
        argument(in(what, 0, 9));
        return now.settings[what];
    }

    int whole(int what) {
        argument(in(what, 0, 10));
        int good = 0;
        int points = 0;
        int gaps = 0;
        int missing = 0;
        for (int t = 0; t < now.trails.size(); t++) {
            good += trail(t, 6);
            points += trail(t, 0);
            gaps += trail(t, 7);
        }
        for (int s = 0; s < now.stars.size(); s++) {
            missing += star(s, 6);
        }
        List<Pair> matches = matches();
        int sum = (int) matches.stream().mapToLong(Pair::cost).sum();
        int[] values = {now.trails.size(), now.stars.size(), now.px, now.py, costAt(now.px, now.py), good,
            matches.size(), sum, missing, points, gaps};
        return values[what];
    }

    int costAt(int x, int y) {
        argument(isPole(x, y));
        return plateCost(x, y, now.settings[1], now.settings[2]);
    }

    int meanRate() {
        int turned = 0;
        int frames = 0;
        int count = 0;
        for (int t = 0; t < now.trails.size(); t++) {
            if (good(t)) {
                count++;
                turned += sweep(t);
                frames += span(t);
            }
        }
        return count == 0 ? NONE : Math.floorDiv(turned, frames);
    }

    int meanScale() {
        long onPlate = 0;
        long inCatalog = 0;
        List<Pair> matches = matches();
        for (Pair m : matches) {
            onPlate += trailRadius(m.trail());
            inCatalog += now.stars.get(m.star()).radius();
        }
        return matches.isEmpty() ? NONE : (int) (1000 * onPlate / inCatalog);
    }

    int bestZero() {
        List<long[]> found = new ArrayList<>();
        for (int t = 0; t < now.trails.size(); t++) {
            for (int s = 0; s < now.stars.size(); s++) {
                if (!now.trails.get(t).isEmpty()) {
                    Point first = now.trails.get(t).get(0);
                    int zero = Math.floorMod(
                        angle(first) - now.stars.get(s).angle() - now.settings[0] * first.frame(), 360000);
                    List<Pair> matches = matches(zero);
                    found.add(new long[] {-matches.size(), matches.stream().mapToLong(Pair::cost).sum(), zero});
                }
            }
        }
        found.sort(java.util.Arrays::compare);
        return found.isEmpty() ? NONE : (int) found.get(0)[2];
    }

    int bestDrift(int most) {
        argument(in(most, 0, 5));
        int best = 0;
        int least = Integer.MAX_VALUE;
        for (int u = -100; u <= 100; u++) {
            for (int v = -100; v <= 100; v++) {
                if (Math.abs(u - now.settings[1]) <= most && Math.abs(v - now.settings[2]) <= most) {
                    int c = plateCost(now.px, now.py, u, v);
                    int answer = 1000 * (u + 100) + (v + 100);
                    if (c < least || c == least && answer < best) {
                        least = c;
                        best = answer;
                    }
                }
            }
        }
        return best;
    }

    int type(int value) {
        argument(in(value, 0, 127));
        state(text.length() < 150);
        text += (char) value;
        return text.length();
    }

    int clearCommands() {
        int before = text.length();
        text = "";
        return before;
    }

    private static int numbersOf(String word) {
        return switch (word) {
            case "trail" -> 0;
            case "point" -> 4;
            case "star" -> 3;
            case "pole", "set" -> 2;
            case "back", "search" -> 1;
            default -> -1;
        };
    }

    /** Reads the text byte by byte as a machine of states; fills commands, answers the fault or -1. */
    private int fault(List<Command> commands) {
        String state = "between";
        int wordAt = 0;
        int digits = 0;
        int left = 0;
        boolean spaced = false;
        for (int i = 0; i <= text.length(); i++) {
            int c = i < text.length() ? text.charAt(i) : -1;
            boolean letter = in(c, 'a', 'z');
            boolean digit = in(c, '0', '9');
            if (state.equals("between")) {
                if (c == -1) {
                    return -1;
                }
                if (letter) {
                    state = "word";
                    wordAt = i;
                } else if (c != ' ') {
                    return i;
                }
                continue;
            }
            if (state.equals("word")) {
                if (letter) {
                    continue;
                }
                String word = text.substring(wordAt, i);
                left = numbersOf(word);
                if (left < 0) {
                    return wordAt;
                }
                commands.add(new Command(word, new ArrayList<>()));
                state = "after";
                spaced = false;
            } else if (state.equals("digits")) {
                if (digit) {
                    digits++;
                    if (digits == 7) {
                        return i;
                    }
                    continue;
                }
                commands.get(commands.size() - 1).numbers().add(Integer.parseInt(text.substring(i - digits, i)));
                left--;
                state = "after";
                spaced = false;
            }
            if (c == ' ') {
                spaced = true;
            } else if (left > 0 && spaced && digit) {
                state = "digits";
                digits = 1;
            } else if (left == 0 && c == ';') {
                state = "between";
            } else {
                return i;
            }
        }
        throw new AssertionError("a text ends in no state but between");
    }

    private void carryOut(Command command) {
        List<Integer> n = command.numbers();
        switch (command.word()) {
            case "trail" -> addTrail();
            case "point" -> addPoint(n.get(0), n.get(1), n.get(2), n.get(3));
            case "star" -> addStar(n.get(0), n.get(1), n.get(2));
            case "pole" -> setPole(n.get(0), n.get(1));
            case "set" -> set(n.get(0), n.get(1));
            case "back" -> set(0, -n.get(0));
            default -> search(n.get(0));
        }
    }

    int runCommands() {
        List<Command> commands = new ArrayList<>();
        int fault = fault(commands);
        if (fault >= 0) {
            return -10 - fault;
        }
        save();
        inRun = true;
        stop = 0;
        int done = 0;
        try {
            for (Command command : commands) {
                carryOut(command);
                done++;
            }
        } catch (IndexOutOfBoundsException e) {
            stop = 1;
        } catch (IllegalArgumentException e) {
            stop = 2;
        } catch (IllegalStateException e) {
            stop = 3;
        }
        inRun = false;
        return done;
    }

    int stop() {
        return stop;
    }

    int undo() {
        state(!undoable.isEmpty());
        now = undoable.removeLast();
        return undoable.size();
    }

    long digest() {
        List<Integer> values = new ArrayList<>(List.of(undoable.size(), text.length(), stop));
        for (int what = 0; what <= 10; what++) {
            values.add(whole(what));
        }
        for (int what = 0; what <= 9; what++) {
            values.add(setting(what));
        }
        for (int t = 0; t < now.trails.size(); t++) {
            for (int what = 0; what <= 8; what++) {
                values.add(trail(t, what));
            }
            for (int p = 0; p < now.trails.get(t).size(); p++) {
                for (int what = 0; what <= 6; what++) {
                    values.add(point(t, p, what));
                }
            }
        }
        for (int s = 0; s < now.stars.size(); s++) {
            for (int what = 0; what <= 6; what++) {
                values.add(star(s, what));
            }
        }
        long h = 18761;
        for (int v : values) {
            h = 31 * h + v;
        }
        return h;
    }
}
