/** A plate of star trails, as ../shared/DOC.md tells it. */
public final class ArcPlate {
    public static final int NONE = -1000000000;

    // What a call meets; the numbers are those that stop() answers.
    private static final int FINE = 0;
    private static final int NO_SUCH = 1;
    private static final int BAD_VALUE = 2;
    private static final int BAD_STATE = 3;

    // The numbers of the settings.
    private static final int RATE = 0;
    private static final int DRIFT_U = 1;
    private static final int DRIFT_V = 2;
    private static final int RADIUS_TOLERANCE = 3;
    private static final int ANGLE_TOLERANCE = 4;
    private static final int MATCH_TOLERANCE = 5;
    private static final int GREATEST_STEP = 6;
    private static final int SCALE = 7;
    private static final int ZERO = 8;
    private static final int LIGHT_LIMIT = 9;
    private static final int SETTINGS = 10;

    private static final int MOST_TRAILS = 12;
    private static final int MOST_POINTS = 12;
    private static final int MOST_STARS = 12;
    private static final int MOST_FRAME = 1000;
    private static final int MOST_PLACE = 4000;
    private static final int LEAST_POLE = -2000;
    private static final int MOST_POLE = 6000;
    private static final int MOST_SEARCH_STEP = 512;
    private static final int MOST_RADIUS = 100000;
    private static final int MOST_LIGHT = 9;
    private static final int MOST_DRIFT = 100;
    private static final int MOST_DRIFT_TRIED = 5;
    private static final int MOST_TEXT = 150;
    private static final int MOST_BYTE = 127;
    private static final int MOST_SAVED = 4;
    private static final int CIRCLE = 360000;

    // How many values each kind of thing has.
    private static final int POINT_VALUES = 7;
    private static final int TRAIL_VALUES = 9;
    private static final int STAR_VALUES = 7;
    private static final int WHOLE_VALUES = 11;

    private final Plate plate = new Plate();
    private final History history = new History();
    private final Script script = new Script();
    private final Figures figures = new Figures();
    private final Matching matching = new Matching();
    private final Matching trial = new Matching();
    private boolean looked;
    private int halt;

    public ArcPlate() {
        looked = false;
        halt = FINE;
    }

    // ---- trails

    public int addTrail() throws IllegalStateException {
        refuse(plate.faultOfNewTrail());
        keepState();
        return plate.putTrail();
    }

    public int removeTrail(int trail) throws IndexOutOfBoundsException {
        refuse(plate.hasTrail(trail) ? FINE : NO_SUCH);
        keepState();
        return plate.dropTrail(trail);
    }

    public int addPoint(int trail, int frame, int x, int y)
            throws IndexOutOfBoundsException, IllegalArgumentException, IllegalStateException {
        refuse(plate.faultOfNewPoint(trail, frame, x, y));
        keepState();
        return plate.putPoint(trail, frame, x, y);
    }

    public int removePoint(int trail, int point) throws IndexOutOfBoundsException {
        refuse(plate.hasPoint(trail, point) ? FINE : NO_SUCH);
        keepState();
        return plate.dropPoint(trail, point);
    }

    // ---- settings, pole, catalog

    public int set(int what, int value) throws IllegalArgumentException {
        refuse(Plate.faultOfSetting(what, value));
        keepState();
        return plate.putSetting(what, value);
    }

    public int setPole(int x, int y) throws IllegalArgumentException {
        refuse(Plate.faultOfPole(x, y));
        keepState();
        plate.putPole(x, y);
        return plate.costWithPole(x, y);
    }

    public int search(int step) throws IllegalArgumentException {
        refuse(Plate.faultOfStep(step));
        keepState();
        return plate.seekPole(step);
    }

    public int addStar(int radius, int angle, int brightness)
            throws IllegalArgumentException, IllegalStateException {
        refuse(plate.faultOfNewStar(radius, angle, brightness));
        keepState();
        return plate.putStar(radius, angle, brightness);
    }

    public int removeStar(int star) throws IndexOutOfBoundsException {
        refuse(plate.hasStar(star) ? FINE : NO_SUCH);
        keepState();
        return plate.dropStar(star);
    }

    // ---- values of trails

    public int point(int trail, int point, int what)
            throws IndexOutOfBoundsException, IllegalArgumentException {
        refuse(plate.hasPoint(trail, point) ? FINE : NO_SUCH);
        refuse(inRange(what, 0, POINT_VALUES - 1) ? FINE : BAD_VALUE);
        return plate.pointValue(trail, point, what);
    }

    public int trail(int trail, int what) throws IndexOutOfBoundsException, IllegalArgumentException {
        refuse(plate.hasTrail(trail) ? FINE : NO_SUCH);
        refuse(inRange(what, 0, TRAIL_VALUES - 1) ? FINE : BAD_VALUE);
        look();
        return trailValue(trail, what);
    }

    public int star(int star, int what) throws IndexOutOfBoundsException, IllegalArgumentException {
        refuse(plate.hasStar(star) ? FINE : NO_SUCH);
        refuse(inRange(what, 0, STAR_VALUES - 1) ? FINE : BAD_VALUE);
        look();
        return starValue(star, what);
    }

    public int starAngle(int star, int frame) throws IndexOutOfBoundsException, IllegalArgumentException {
        refuse(plate.hasStar(star) ? FINE : NO_SUCH);
        refuse(inRange(frame, 0, MOST_FRAME) ? FINE : BAD_VALUE);
        return plate.angleOfStar(star, plate.settings[ZERO], frame);
    }

    public int cost(int trail, int star) throws IndexOutOfBoundsException {
        refuse(plate.hasTrail(trail) && plate.hasStar(star) ? FINE : NO_SUCH);
        if (plate.points[trail] == 0) {
            return NONE;
        }
        look();
        return Matching.pairCost(plate, figures, trail, star, plate.settings[ZERO]);
    }

    public int missing(int index) throws IllegalArgumentException {
        refuse(index >= 0 ? FINE : BAD_VALUE);
        look();
        int seen = 0;
        for (int s = 0; s < plate.stars; s++) {
            if (isMissing(s)) {
                if (seen == index) {
                    return s;
                }
                seen++;
            }
        }
        return NONE;
    }

    public int setting(int what) throws IllegalArgumentException {
        refuse(inRange(what, 0, SETTINGS - 1) ? FINE : BAD_VALUE);
        return plate.settings[what];
    }

    public int whole(int what) throws IllegalArgumentException {
        refuse(inRange(what, 0, WHOLE_VALUES - 1) ? FINE : BAD_VALUE);
        look();
        return wholeValue(what);
    }

    // ---- what if, which changes nothing

    public int costAt(int x, int y) throws IllegalArgumentException {
        refuse(Plate.faultOfPole(x, y));
        return plate.costWithPole(x, y);
    }

    public int meanRate() {
        look();
        int turned = 0;
        int frames = 0;
        for (int t = 0; t < plate.trails; t++) {
            if (figures.good[t]) {
                turned += figures.sweep[t];
                frames += plate.frameSpan(t);
            }
        }
        return frames > 0 ? Math.floorDiv(turned, frames) : NONE;
    }

    public int meanScale() {
        look();
        int onPlate = 0;
        int inCatalog = 0;
        for (int s = 0; s < plate.stars; s++) {
            int t = matching.trailOf[s];
            if (plate.hasTrail(t)) {
                onPlate += figures.radius[t];
                inCatalog += plate.radii[s];
            }
        }
        return inCatalog > 0 ? Math.floorDiv(1000 * onPlate, inCatalog) : NONE;
    }

    public int bestZero() {
        look();
        int best = NONE;
        int matches = 0;
        int sum = 0;
        for (int t = 0; t < plate.trails; t++) {
            int stars = plate.points[t] > 0 ? plate.stars : 0;
            for (int s = 0; s < stars; s++) {
                int zero = zeroThatBrings(s, t);
                trial.pairUp(plate, figures, zero);
                if (best == NONE || trial.matches > matches
                        || trial.matches == matches && (trial.sum < sum || trial.sum == sum && zero < best)) {
                    best = zero;
                    matches = trial.matches;
                    sum = trial.sum;
                }
            }
        }
        return best;
    }

    public int bestDrift(int most) throws IllegalArgumentException {
        refuse(inRange(most, 0, MOST_DRIFT_TRIED) ? FINE : BAD_VALUE);
        int u = plate.settings[DRIFT_U];
        int v = plate.settings[DRIFT_V];
        int bestU = u;
        int bestV = v;
        int least = NONE;
        // Ascending u, then v, is ascending by the answer, so the first of several stays.
        for (int du = Math.max(-most, -MOST_DRIFT - u); du <= Math.min(most, MOST_DRIFT - u); du++) {
            for (int dv = Math.max(-most, -MOST_DRIFT - v); dv <= Math.min(most, MOST_DRIFT - v); dv++) {
                int sum = plate.costWith(plate.poleX, plate.poleY, u + du, v + dv);
                if (least == NONE || sum < least) {
                    least = sum;
                    bestU = u + du;
                    bestV = v + dv;
                }
            }
        }
        return 1000 * (bestU + MOST_DRIFT) + (bestV + MOST_DRIFT);
    }

    // ---- command text, undo and checksum

    public int type(int value) throws IllegalArgumentException, IllegalStateException {
        refuse(inRange(value, 0, MOST_BYTE) ? FINE : BAD_VALUE);
        refuse(script.length < MOST_TEXT ? FINE : BAD_STATE);
        return script.append(value);
    }

    public int clearCommands() {
        return script.empty();
    }

    public int runCommands() {
        int fault = script.read();
        if (fault != Script.FAULTLESS) {
            return -10 - fault;
        }
        keepState();
        halt = FINE;
        for (int c = 0; c < script.commands; c++) {
            halt = script.faultOf(c, plate);
            if (halt != FINE) {
                return c;
            }
            script.carryOut(c, plate);
        }
        return script.commands;
    }

    public int stop() {
        return halt;
    }

    public int undo() throws IllegalStateException {
        refuse(history.saved > 0 ? FINE : BAD_STATE);
        looked = false;
        return history.restore(plate);
    }

    public long digest() {
        look();
        long h = 18761;
        h = 31 * h + history.saved;
        h = 31 * h + script.length;
        h = 31 * h + halt;
        for (int what = 0; what < WHOLE_VALUES; what++) {
            h = 31 * h + wholeValue(what);
        }
        for (int what = 0; what < SETTINGS; what++) {
            h = 31 * h + plate.settings[what];
        }
        for (int t = 0; t < plate.trails; t++) {
            h = hashTrail(h, t);
        }
        for (int s = 0; s < plate.stars; s++) {
            for (int what = 0; what < STAR_VALUES; what++) {
                h = 31 * h + starValue(s, what);
            }
        }
        return h;
    }

    private long hashTrail(long before, int trail) {
        long h = before;
        for (int what = 0; what < TRAIL_VALUES; what++) {
            h = 31 * h + trailValue(trail, what);
        }
        for (int p = 0; p < plate.points[trail]; p++) {
            for (int what = 0; what < POINT_VALUES; what++) {
                h = 31 * h + plate.pointValue(trail, p, what);
            }
        }
        return h;
    }

    /** Throws what a fault stands for; the callers have changed nothing yet. */
    private static void refuse(int fault) {
        if (fault == NO_SUCH) {
            throw new IndexOutOfBoundsException("no such trail, point or star");
        }
        if (fault == BAD_VALUE) {
            throw new IllegalArgumentException("an argument is out of its range");
        }
        if (fault == BAD_STATE) {
            throw new IllegalStateException("no room, a frame twice, or nothing to undo");
        }
    }

    private static boolean inRange(int value, int least, int most) {
        return value >= least && value <= most;
    }

    /** Saves the state before a change; what was measured of it no longer counts then. */
    private void keepState() {
        history.save(plate);
        looked = false;
    }

    /** Measures and matches, unless that still stands from an earlier call. */
    private void look() {
        if (!looked) {
            figures.measure(plate);
            matching.pairUp(plate, figures, plate.settings[ZERO]);
            looked = true;
        }
    }

    private int trailValue(int trail, int what) {
        switch (what) {
            case 0:
                return plate.points[trail];
            case 1:
                return figures.radius[trail];
            case 2:
                return figures.spread[trail];
            case 3:
                return figures.sweep[trail];
            case 4:
                return figures.expected[trail];
            case 5:
                return figures.misfit[trail];
            case 6:
                return figures.good[trail] ? 1 : 0;
            case 7:
                return figures.gaps[trail];
            default:
                return matching.starOf[trail];
        }
    }

    private int starValue(int star, int what) {
        switch (what) {
            case 0:
                return plate.radii[star];
            case 1:
                return plate.angles[star];
            case 2:
                return plate.lights[star];
            case 3:
                return plate.radiusOfStar(star);
            case 4:
                return matching.trailOf[star];
            case 5:
                return matching.costOf[star];
            default:
                return isMissing(star) ? 1 : 0;
        }
    }

    private int wholeValue(int what) {
        switch (what) {
            case 0:
                return plate.trails;
            case 1:
                return plate.stars;
            case 2:
                return plate.poleX;
            case 3:
                return plate.poleY;
            case 4:
                return plate.costWithPole(plate.poleX, plate.poleY);
            case 5:
                return goodTrails();
            case 6:
                return matching.matches;
            case 7:
                return matching.sum;
            case 8:
                return missingStars();
            case 9:
                return plate.pointsInAll();
            default:
                return gapsInAll();
        }
    }

    private boolean isMissing(int star) {
        return matching.trailOf[star] == NONE && plate.lights[star] >= plate.settings[LIGHT_LIMIT];
    }

    private int missingStars() {
        int count = 0;
        for (int s = 0; s < plate.stars; s++) {
            if (isMissing(s)) {
                count++;
            }
        }
        return count;
    }

    private int goodTrails() {
        int count = 0;
        for (int t = 0; t < plate.trails; t++) {
            if (figures.good[t]) {
                count++;
            }
        }
        return count;
    }

    private int gapsInAll() {
        int count = 0;
        for (int t = 0; t < plate.trails; t++) {
            count += figures.gaps[t];
        }
        return count;
    }

    /** The zero by which a star has the angle of a trail's first point in that point's frame. */
    private int zeroThatBrings(int star, int trail) {
        int turned = plate.settings[RATE] * plate.frames[Plate.slot(trail, 0)];
        return Math.floorMod(figures.firstAngle[trail] - plate.angles[star] - turned, CIRCLE);
    }

    /** Roots and angles of whole numbers. */
    private static final class Arc {
        private static final int[] TURNS = {45000, 26565, 14036, 7125, 3576, 1790, 895, 448,
            224, 112, 56, 28, 14, 7, 3, 2};

        static int root(int n) {
            int rest = n;
            int found = 0;
            // By pairs of binary digits, from the highest that an int can have.
            for (int k = 30; k >= 0; k -= 2) {
                int digit = 1 << k;
                if (rest >= found + digit) {
                    rest -= found + digit;
                    found = (found >> 1) + digit;
                } else {
                    found >>= 1;
                }
            }
            return found;
        }

        static int angle(int dx, int dy) {
            if (dx == 0 && dy == 0) {
                return 0;
            }
            // Places left of the pole are turned by half a circle first.
            int a = dx < 0 ? CIRCLE / 2 : 0;
            int scale = dx < 0 ? -1024 : 1024;
            int x = scale * dx;
            int y = scale * dy;
            for (int k = 0; k < TURNS.length; k++) {
                // A shift rounds towards minus infinity, as floor does.
                int xPart = x >> k;
                int yPart = y >> k;
                if (y > 0) {
                    x += yPart;
                    y -= xPart;
                    a += TURNS[k];
                } else if (y < 0) {
                    x -= yPart;
                    y += xPart;
                    a -= TURNS[k];
                }
            }
            return Math.floorMod(a, CIRCLE);
        }

        static int turn(int from, int to) {
            int turned = Math.floorMod(to - from, CIRCLE);
            return turned > CIRCLE / 2 ? turned - CIRCLE : turned;
        }
    }

    /** The state that undo brings back, and its changes. */
    private static final class Plate {
        private static final int[] AT_FIRST = {250, 0, 0, 5, 1000, 50, 100, 1000, 0, 3};
        private static final int[] LEAST = {-5000, -100, -100, 0, 0, 0, 1, 1, 0, 0};
        private static final int[] MOST = {5000, 100, 100, 500, 180000, 5000, 1000, 100000, 359999, 9};

        // Far above what a search can need: each move lowers a cost that is below 120000.
        private static final int MOST_ROUNDS = 1000000;

        int trails;
        int stars;
        int poleX;
        int poleY;
        final int[] points;
        final int[] frames;
        final int[] xs;
        final int[] ys;
        final int[] radii;
        final int[] angles;
        final int[] lights;
        final int[] settings;

        Plate() {
            trails = 0;
            stars = 0;
            poleX = 2000;
            poleY = 2000;
            points = new int[MOST_TRAILS];
            frames = new int[MOST_TRAILS * MOST_POINTS];
            xs = new int[MOST_TRAILS * MOST_POINTS];
            ys = new int[MOST_TRAILS * MOST_POINTS];
            radii = new int[MOST_STARS];
            angles = new int[MOST_STARS];
            lights = new int[MOST_STARS];
            settings = AT_FIRST.clone();
        }

        void copyFrom(Plate other) {
            trails = other.trails;
            stars = other.stars;
            poleX = other.poleX;
            poleY = other.poleY;
            copyRow(other.points, points);
            copyRow(other.frames, frames);
            copyRow(other.xs, xs);
            copyRow(other.ys, ys);
            copyRow(other.radii, radii);
            copyRow(other.angles, angles);
            copyRow(other.lights, lights);
            copyRow(other.settings, settings);
        }

        private static void copyRow(int[] from, int[] to) {
            System.arraycopy(from, 0, to, 0, Math.min(from.length, to.length));
        }

        /** Where a point stands in the rows of frames and places. */
        static int slot(int trail, int point) {
            return trail * MOST_POINTS + point;
        }

        boolean hasTrail(int trail) {
            return trail >= 0 && trail < trails;
        }

        boolean hasPoint(int trail, int point) {
            return hasTrail(trail) && point >= 0 && point < points[trail];
        }

        boolean hasStar(int star) {
            return star >= 0 && star < stars;
        }

        int faultOfNewTrail() {
            return trails < MOST_TRAILS ? FINE : BAD_STATE;
        }

        int faultOfNewPoint(int trail, int frame, int x, int y) {
            if (!hasTrail(trail)) {
                return NO_SUCH;
            }
            if (!inRange(frame, 0, MOST_FRAME) || !inRange(x, 0, MOST_PLACE) || !inRange(y, 0, MOST_PLACE)) {
                return BAD_VALUE;
            }
            return points[trail] < MOST_POINTS && !hasFrame(trail, frame) ? FINE : BAD_STATE;
        }

        private boolean hasFrame(int trail, int frame) {
            for (int p = 0; p < points[trail]; p++) {
                if (frames[slot(trail, p)] == frame) {
                    return true;
                }
            }
            return false;
        }

        static int faultOfSetting(int what, int value) {
            return inRange(what, 0, SETTINGS - 1) && inRange(value, LEAST[what], MOST[what]) ? FINE : BAD_VALUE;
        }

        static int faultOfPole(int x, int y) {
            return isPole(x, y) ? FINE : BAD_VALUE;
        }

        private static boolean isPole(int x, int y) {
            return inRange(x, LEAST_POLE, MOST_POLE) && inRange(y, LEAST_POLE, MOST_POLE);
        }

        static int faultOfStep(int step) {
            return inRange(step, 1, MOST_SEARCH_STEP) ? FINE : BAD_VALUE;
        }

        int faultOfNewStar(int radius, int angle, int light) {
            if (!inRange(radius, 1, MOST_RADIUS) || !inRange(angle, 0, CIRCLE - 1) || !inRange(light, 0, MOST_LIGHT)) {
                return BAD_VALUE;
            }
            return stars < MOST_STARS ? FINE : BAD_STATE;
        }

        int putTrail() {
            points[trails] = 0;
            trails++;
            return trails - 1;
        }

        int dropTrail(int trail) {
            closeUp(points, trail, 1, trails);
            int from = slot(trail, 0);
            int end = slot(trails, 0);
            closeUp(frames, from, MOST_POINTS, end);
            closeUp(xs, from, MOST_POINTS, end);
            closeUp(ys, from, MOST_POINTS, end);
            trails--;
            return trails;
        }

        int putPoint(int trail, int frame, int x, int y) {
            int number = 0;
            while (number < points[trail] && frames[slot(trail, number)] < frame) {
                number++;
            }
            int at = slot(trail, number);
            int end = slot(trail, points[trail]);
            insert(frames, at, end, frame);
            insert(xs, at, end, x);
            insert(ys, at, end, y);
            points[trail]++;
            return number;
        }

        int dropPoint(int trail, int point) {
            int at = slot(trail, point);
            int end = slot(trail, points[trail]);
            closeUp(frames, at, 1, end);
            closeUp(xs, at, 1, end);
            closeUp(ys, at, 1, end);
            points[trail]--;
            return points[trail];
        }

        int putSetting(int what, int value) {
            int before = settings[what];
            settings[what] = value;
            return before;
        }

        void putPole(int x, int y) {
            poleX = x;
            poleY = y;
        }

        int putStar(int radius, int angle, int light) {
            radii[stars] = radius;
            angles[stars] = angle;
            lights[stars] = light;
            stars++;
            return stars - 1;
        }

        int dropStar(int star) {
            closeUp(radii, star, 1, stars);
            closeUp(angles, star, 1, stars);
            closeUp(lights, star, 1, stars);
            stars--;
            return stars;
        }

        /** Takes some elements out of a row whose used part ends before end. */
        private static void closeUp(int[] row, int from, int taken, int end) {
            for (int at = from; at + taken < end && at + taken < row.length; at++) {
                row[at] = row[at + taken];
            }
        }

        private static void insert(int[] row, int at, int end, int value) {
            for (int i = end; i > at && i < row.length; i--) {
                row[i] = row[i - 1];
            }
            row[at] = value;
        }

        int pointsInAll() {
            int count = 0;
            for (int t = 0; t < trails; t++) {
                count += points[t];
            }
            return count;
        }

        int frameSpan(int trail) {
            int last = points[trail] - 1;
            return last > 0 ? frames[slot(trail, last)] - frames[slot(trail, 0)] : 0;
        }

        private int placeX(int at, int u) {
            return xs[at] - Math.floorDiv(u * frames[at], 100);
        }

        private int placeY(int at, int v) {
            return ys[at] - Math.floorDiv(v * frames[at], 100);
        }

        int radiusAt(int at) {
            int dx = placeX(at, settings[DRIFT_U]) - poleX;
            int dy = placeY(at, settings[DRIFT_V]) - poleY;
            return Arc.root(dx * dx + dy * dy);
        }

        int angleAt(int at) {
            int dx = placeX(at, settings[DRIFT_U]) - poleX;
            int dy = placeY(at, settings[DRIFT_V]) - poleY;
            return Arc.angle(dx, dy);
        }

        int pointValue(int trail, int point, int what) {
            int at = slot(trail, point);
            switch (what) {
                case 0:
                    return frames[at];
                case 1:
                    return xs[at];
                case 2:
                    return ys[at];
                case 3:
                    return placeX(at, settings[DRIFT_U]);
                case 4:
                    return placeY(at, settings[DRIFT_V]);
                case 5:
                    return radiusAt(at);
                default:
                    return angleAt(at);
            }
        }

        int radiusOfStar(int star) {
            // The product may be beyond an int.
            return (int) ((long) radii[star] * settings[SCALE] / 1000);
        }

        int angleOfStar(int star, int zero, int frame) {
            return Math.floorMod(angles[star] + zero + settings[RATE] * frame, CIRCLE);
        }

        int costWithPole(int x, int y) {
            return costWith(x, y, settings[DRIFT_U], settings[DRIFT_V]);
        }

        int costWith(int x, int y, int u, int v) {
            int sum = 0;
            for (int t = 0; t < trails; t++) {
                if (points[t] >= 2) {
                    sum += spreadWith(t, x, y, u, v);
                }
            }
            return sum;
        }

        /** The spread by the squares: the root of the greatest one is the greatest radius. */
        private int spreadWith(int trail, int x, int y, int u, int v) {
            int least = 0;
            int most = 0;
            for (int p = 0; p < points[trail]; p++) {
                int at = slot(trail, p);
                int dx = placeX(at, u) - x;
                int dy = placeY(at, v) - y;
                int square = dx * dx + dy * dy;
                least = p == 0 ? square : Math.min(least, square);
                most = p == 0 ? square : Math.max(most, square);
            }
            return Arc.root(most) - Arc.root(least);
        }

        int seekPole(int step) {
            int moves = 0;
            int s = step;
            int u = settings[DRIFT_U];
            int v = settings[DRIFT_V];
            int here = costWith(poleX, poleY, u, v);
            for (int round = 0; round < MOST_ROUNDS && s > 0; round++) {
                int least = here;
                int x = poleX;
                int y = poleY;
                for (int k = 0; k < 9; k++) {
                    int nearX = poleX + (k % 3 - 1) * s;
                    int nearY = poleY + (k / 3 - 1) * s;
                    // The fifth is the pole itself.
                    int near = k != 4 && isPole(nearX, nearY) ? costWith(nearX, nearY, u, v) : here;
                    if (near < least) {
                        least = near;
                        x = nearX;
                        y = nearY;
                    }
                }
                if (least < here) {
                    putPole(x, y);
                    here = least;
                    moves++;
                } else {
                    s /= 2;
                }
            }
            return moves;
        }
    }

    /** The latest saved states, the oldest one first. */
    private static final class History {
        final Plate[] states;
        int saved;

        History() {
            saved = 0;
            states = new Plate[MOST_SAVED];
            for (int i = 0; i < MOST_SAVED; i++) {
                states[i] = new Plate();
            }
        }

        void save(Plate plate) {
            if (saved >= MOST_SAVED) {
                dropOldest();
            }
            states[saved].copyFrom(plate);
            saved++;
        }

        private void dropOldest() {
            Plate oldest = states[0];
            for (int i = 1; i < MOST_SAVED; i++) {
                states[i - 1] = states[i];
            }
            // Its rows are used again for the next state.
            states[MOST_SAVED - 1] = oldest;
            saved = MOST_SAVED - 1;
        }

        int restore(Plate plate) {
            saved--;
            plate.copyFrom(states[saved]);
            return saved;
        }
    }

    /** What is measured of each trail; NONE where a trail without points has no such value. */
    private static final class Figures {
        final int[] radius;
        final int[] spread;
        final int[] sweep;
        final int[] expected;
        final int[] misfit;
        final int[] gaps;
        final int[] firstAngle;
        final boolean[] good;

        Figures() {
            radius = new int[MOST_TRAILS];
            spread = new int[MOST_TRAILS];
            sweep = new int[MOST_TRAILS];
            expected = new int[MOST_TRAILS];
            misfit = new int[MOST_TRAILS];
            gaps = new int[MOST_TRAILS];
            firstAngle = new int[MOST_TRAILS];
            good = new boolean[MOST_TRAILS];
        }

        void measure(Plate plate) {
            for (int t = 0; t < plate.trails; t++) {
                if (plate.points[t] > 0) {
                    measureRadii(plate, t, plate.points[t]);
                    measureAngles(plate, t, plate.points[t]);
                    judge(plate, t);
                } else {
                    leaveOut(t);
                }
            }
        }

        private void leaveOut(int trail) {
            radius[trail] = NONE;
            spread[trail] = NONE;
            sweep[trail] = NONE;
            expected[trail] = NONE;
            misfit[trail] = NONE;
            firstAngle[trail] = NONE;
            gaps[trail] = 0;
            good[trail] = false;
        }

        private void measureRadii(Plate plate, int trail, int count) {
            int sum = 0;
            int least = 0;
            int most = 0;
            for (int p = 0; p < count; p++) {
                int r = plate.radiusAt(Plate.slot(trail, p));
                sum += r;
                least = p == 0 ? r : Math.min(least, r);
                most = p == 0 ? r : Math.max(most, r);
            }
            radius[trail] = count > 0 ? sum / count : NONE;
            spread[trail] = most - least;
        }

        private void measureAngles(Plate plate, int trail, int count) {
            int turned = 0;
            int wide = 0;
            int before = plate.angleAt(Plate.slot(trail, 0));
            firstAngle[trail] = before;
            for (int p = 1; p < count; p++) {
                int at = Plate.slot(trail, p);
                int angle = plate.angleAt(at);
                turned += Arc.turn(before, angle);
                before = angle;
                if (plate.frames[at] - plate.frames[at - 1] > plate.settings[GREATEST_STEP]) {
                    wide++;
                }
            }
            sweep[trail] = turned;
            gaps[trail] = wide;
        }

        private void judge(Plate plate, int trail) {
            expected[trail] = plate.settings[RATE] * plate.frameSpan(trail);
            misfit[trail] = Math.abs(sweep[trail] - expected[trail]);
            good[trail] = plate.points[trail] >= 2
                    && spread[trail] <= plate.settings[RADIUS_TOLERANCE]
                    && misfit[trail] <= plate.settings[ANGLE_TOLERANCE];
        }
    }

    /** Trails matched with stars by some zero. */
    private static final class Matching {
        final int[] starOf;
        final int[] trailOf;
        final int[] costOf;
        int matches;
        int sum;

        // The pairs within the tolerance, in the order of trails and of stars in each.
        private final int[] pairTrail;
        private final int[] pairStar;
        private final int[] pairCosts;
        private int pairs;

        Matching() {
            starOf = new int[MOST_TRAILS];
            trailOf = new int[MOST_STARS];
            costOf = new int[MOST_STARS];
            matches = 0;
            sum = 0;
            pairTrail = new int[MOST_TRAILS * MOST_STARS];
            pairStar = new int[MOST_TRAILS * MOST_STARS];
            pairCosts = new int[MOST_TRAILS * MOST_STARS];
            pairs = 0;
        }

        /** The cost of a trail that has points and a star. */
        static int pairCost(Plate plate, Figures figures, int trail, int star, int zero) {
            int apart = Math.abs(figures.radius[trail] - plate.radiusOfStar(star));
            int there = plate.angleOfStar(star, zero, plate.frames[Plate.slot(trail, 0)]);
            long turned = Math.abs(Arc.turn(figures.firstAngle[trail], there));
            return apart + (int) (turned * figures.radius[trail] / 57296);
        }

        void pairUp(Plate plate, Figures figures, int zero) {
            clearMatches();
            collectPairs(plate, figures, zero);
            int most = Math.min(plate.trails, plate.stars);
            for (int round = 0; round < most; round++) {
                int best = bestFreePair();
                if (best < 0) {
                    return;
                }
                int trail = pairTrail[best];
                int star = pairStar[best];
                starOf[trail] = star;
                trailOf[star] = trail;
                costOf[star] = pairCosts[best];
                matches++;
                sum += pairCosts[best];
            }
        }

        private void clearMatches() {
            for (int t = 0; t < MOST_TRAILS; t++) {
                starOf[t] = NONE;
            }
            for (int s = 0; s < MOST_STARS; s++) {
                trailOf[s] = NONE;
                costOf[s] = NONE;
            }
            matches = 0;
            sum = 0;
        }

        private void collectPairs(Plate plate, Figures figures, int zero) {
            pairs = 0;
            for (int t = 0; t < plate.trails; t++) {
                int stars = plate.points[t] > 0 ? plate.stars : 0;
                for (int s = 0; s < stars; s++) {
                    int c = pairCost(plate, figures, t, s, zero);
                    if (c <= plate.settings[MATCH_TOLERANCE] && pairs < pairCosts.length) {
                        pairTrail[pairs] = t;
                        pairStar[pairs] = s;
                        pairCosts[pairs] = c;
                        pairs++;
                    }
                }
            }
        }

        private int bestFreePair() {
            int best = -1;
            for (int i = 0; i < pairs; i++) {
                boolean free = starOf[pairTrail[i]] == NONE && trailOf[pairStar[i]] == NONE;
                if (free && (best < 0 || pairCosts[i] < pairCosts[best])) {
                    best = i;
                }
            }
            return best;
        }
    }

    /** The command text, and the commands that were read from it. */
    private static final class Script {
        static final int FAULTLESS = -1;

        private static final int TRAIL = 0;
        private static final int POINT = 1;
        private static final int STAR = 2;
        private static final int POLE = 3;
        private static final int SET = 4;
        private static final int BACK = 5;
        private static final int SEARCH = 6;
        private static final int UNKNOWN = -1;
        private static final int[] NUMBERS = {0, 4, 3, 2, 2, 1, 1};
        private static final int MOST_NUMBERS = 4;
        private static final int MOST_DIGITS = 6;
        private static final int END = -1;

        int length;
        int commands;
        private final byte[] text;
        private final int[] kinds;
        private final int[] numbers;
        private int at;

        Script() {
            length = 0;
            commands = 0;
            text = new byte[MOST_TEXT];
            kinds = new int[MOST_TEXT];
            numbers = new int[MOST_TEXT * MOST_NUMBERS];
            at = 0;
        }

        int append(int value) {
            text[length] = (byte) value;
            length++;
            return length;
        }

        int empty() {
            int before = length;
            length = 0;
            return before;
        }

        /** Reads the text into commands; answers its fault, or FAULTLESS. */
        int read() {
            commands = 0;
            at = 0;
            skipSpaces();
            for (int round = 0; round < MOST_TEXT && at < length; round++) {
                int fault = readCommand();
                if (fault != FAULTLESS) {
                    return fault;
                }
                skipSpaces();
            }
            return FAULTLESS;
        }

        private int readCommand() {
            int start = at;
            while (at < length && text[at] >= 'a' && text[at] <= 'z') {
                at++;
            }
            int kind = kindOf(start, at);
            // So is a byte that begins no word at fault, as an empty word.
            if (kind == UNKNOWN) {
                return start;
            }
            for (int n = 0; n < NUMBERS[kind]; n++) {
                if (!readNumber(commands * MOST_NUMBERS + n)) {
                    return at;
                }
            }
            skipSpaces();
            if (here() != ';') {
                return at;
            }
            at++;
            kinds[commands] = kind;
            commands++;
            return FAULTLESS;
        }

        /** Reads a number behind spaces; if it answers false, the fault is at the reader's place. */
        private boolean readNumber(int slot) {
            if (here() != ' ') {
                return false;
            }
            skipSpaces();
            if (!atDigit()) {
                return false;
            }
            int value = 0;
            for (int digits = 0; digits < MOST_DIGITS && atDigit(); digits++) {
                value = 10 * value + here() - '0';
                at++;
            }
            numbers[slot] = value;
            return !atDigit();
        }

        private int here() {
            return at < length ? text[at] : END;
        }

        private boolean atDigit() {
            return here() >= '0' && here() <= '9';
        }

        private void skipSpaces() {
            while (at < length && text[at] == ' ') {
                at++;
            }
        }

        private int kindOf(int start, int end) {
            if (isWord("trail", start, end)) {
                return TRAIL;
            }
            if (isWord("point", start, end)) {
                return POINT;
            }
            if (isWord("star", start, end)) {
                return STAR;
            }
            if (isWord("pole", start, end)) {
                return POLE;
            }
            if (isWord("set", start, end)) {
                return SET;
            }
            if (isWord("back", start, end)) {
                return BACK;
            }
            return isWord("search", start, end) ? SEARCH : UNKNOWN;
        }

        private boolean isWord(String word, int start, int end) {
            if (word.length() != end - start) {
                return false;
            }
            for (int i = 0; i < word.length(); i++) {
                if (word.charAt(i) != text[start + i]) {
                    return false;
                }
            }
            return true;
        }

        /** What a command that was read would meet now. */
        int faultOf(int command, Plate plate) {
            int n = command * MOST_NUMBERS;
            switch (kinds[command]) {
                case TRAIL:
                    return plate.faultOfNewTrail();
                case POINT:
                    return plate.faultOfNewPoint(numbers[n], numbers[n + 1], numbers[n + 2], numbers[n + 3]);
                case STAR:
                    return plate.faultOfNewStar(numbers[n], numbers[n + 1], numbers[n + 2]);
                case POLE:
                    return Plate.faultOfPole(numbers[n], numbers[n + 1]);
                case SET:
                    return Plate.faultOfSetting(numbers[n], numbers[n + 1]);
                case BACK:
                    return Plate.faultOfSetting(RATE, -numbers[n]);
                default:
                    return Plate.faultOfStep(numbers[n]);
            }
        }

        /** Carries out a command that meets no fault. */
        void carryOut(int command, Plate plate) {
            int n = command * MOST_NUMBERS;
            switch (kinds[command]) {
                case TRAIL:
                    plate.putTrail();
                    break;
                case POINT:
                    plate.putPoint(numbers[n], numbers[n + 1], numbers[n + 2], numbers[n + 3]);
                    break;
                case STAR:
                    plate.putStar(numbers[n], numbers[n + 1], numbers[n + 2]);
                    break;
                case POLE:
                    plate.putPole(numbers[n], numbers[n + 1]);
                    break;
                case SET:
                    plate.putSetting(numbers[n], numbers[n + 1]);
                    break;
                case BACK:
                    plate.putSetting(RATE, -numbers[n]);
                    break;
                default:
                    plate.seekPole(numbers[n]);
                    break;
            }
        }
    }
}
