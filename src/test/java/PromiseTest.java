/** Each promise of the document by itself: ordinary calls, the edges that it names, and wrong ones. */
public final class PromiseTest extends Checks {
    private static void newObject() {
        ArcPlate plate = new ArcPlate();
        int[] whole = {0, 0, 2000, 2000, 0, 0, 0, 0, 0, 0, 0};
        for (int what = 0; what < whole.length; what++) {
            due(whole[what], plate.whole(what), "whole " + what);
        }
        int[] settings = {250, 0, 0, 5, 1000, 50, 100, 1000, 0, 3};
        for (int what = 0; what < settings.length; what++) {
            due(settings[what], plate.setting(what), "setting " + what);
        }
        due(0, plate.stop(), "stop");
        due(0, plate.clearCommands(), "length of the text");
        badState(plate, "undo", plate::undo);
        due(-1000000000, NONE, "NONE");
    }

    private static void addTrail() {
        ArcPlate plate = new ArcPlate();
        for (int t = 0; t < 12; t++) {
            due(t, plate.addTrail(), "trail " + t);
            due(t + 1, plate.whole(0), "trails");
            due(0, plate.trail(t, 0), "points of a new trail");
        }
        badState(plate, "a 13th trail", plate::addTrail);
        due(3, plate.undo(), "undo");
        due(11, plate.whole(0), "trails after undo");
        due(11, plate.addTrail(), "trail after undo");
    }

    private static void addTrailAfterRemoval() {
        ArcPlate plate = withPoints(10, 2100, 2000, 2000, 2100);
        plate.removeTrail(0);
        due(0, plate.addTrail(), "trail in the place of a removed one");
        due(0, plate.trail(0, 0), "its points");
        due(NONE, plate.trail(0, 1), "its radius");
    }

    private static void removeTrail() {
        ArcPlate plate = withTrails(3);
        noSuch(plate, "trail 3", () -> plate.removeTrail(3));
        noSuch(plate, "trail -1", () -> plate.removeTrail(-1));
        plate.addPoint(1, 5, 11, 12);
        plate.addPoint(2, 7, 21, 22);
        plate.addPoint(2, 9, 23, 24);
        due(2, plate.removeTrail(0), "trails left");
        due(1, plate.trail(0, 0), "points of the first");
        due(11, plate.point(0, 0, 1), "x of the first");
        due(2, plate.trail(1, 0), "points of the second");
        due(24, plate.point(1, 1, 2), "y of the second");
        due(9, plate.point(1, 1, 0), "frame of the second");
        due(1, plate.removeTrail(1), "trails left");
        due(11, plate.point(0, 0, 1), "x of the first still");
        due(3, plate.undo(), "undo");
        due(23, plate.point(1, 1, 1), "x brought back");
        ArcPlate full = withTrails(12);
        full.addPoint(11, 3, 4, 5);
        due(11, full.removeTrail(0), "trails left of 12");
        due(4, full.point(10, 0, 1), "x of the last of 12");
    }

    private static void addPoint() {
        ArcPlate plate = withTrails(2);
        due(0, plate.addPoint(0, 500, 1, 2), "the first point");
        due(0, plate.addPoint(0, 0, 0, 4000), "one before it");
        due(2, plate.addPoint(0, 1000, 4000, 0), "one behind it");
        due(1, plate.addPoint(0, 250, 5, 6), "one between");
        int[] frames = {0, 250, 500, 1000};
        int[] xs = {0, 5, 1, 4000};
        int[] ys = {4000, 6, 2, 0};
        for (int p = 0; p < 4; p++) {
            due(frames[p], plate.point(0, p, 0), "frame " + p);
            due(xs[p], plate.point(0, p, 1), "x " + p);
            due(ys[p], plate.point(0, p, 2), "y " + p);
        }
        due(0, plate.addPoint(1, 500, 7, 8), "the frame in another trail");
        due(3, plate.undo(), "undo");
        due(0, plate.trail(1, 0), "points after undo");
    }

    private static void addPointRefused() {
        ArcPlate plate = withTrails(1);
        plate.addPoint(0, 500, 1, 2);
        noSuch(plate, "trail 1", () -> plate.addPoint(1, 0, 0, 0));
        noSuch(plate, "trail -1 with a bad frame", () -> plate.addPoint(-1, -1, 0, 0));
        badValue(plate, "frame -1", () -> plate.addPoint(0, -1, 0, 0));
        badValue(plate, "frame 1001", () -> plate.addPoint(0, 1001, 0, 0));
        badValue(plate, "x -1", () -> plate.addPoint(0, 0, -1, 0));
        badValue(plate, "x 4001", () -> plate.addPoint(0, 0, 4001, 0));
        badValue(plate, "y -1", () -> plate.addPoint(0, 0, 0, -1));
        badValue(plate, "y 4001", () -> plate.addPoint(0, 0, 0, 4001));
        badState(plate, "the frame again", () -> plate.addPoint(0, 500, 9, 9));
        badValue(plate, "the frame again with a bad x", () -> plate.addPoint(0, 500, 4001, 9));
        for (int p = 1; p < 12; p++) {
            due(p - 1, plate.addPoint(0, p, p, p), "point " + p);
        }
        badState(plate, "a 13th point", () -> plate.addPoint(0, 900, 9, 9));
        badValue(plate, "a 13th point with a bad y", () -> plate.addPoint(0, 900, 9, 4001));
        due(500, plate.point(0, 11, 0), "frame of the last");
    }

    private static void removePoint() {
        ArcPlate plate = withPoints(10, 1, 2, 3, 4, 5, 6);
        noSuch(plate, "trail 1", () -> plate.removePoint(1, 0));
        noSuch(plate, "trail -1", () -> plate.removePoint(-1, 0));
        noSuch(plate, "point 3", () -> plate.removePoint(0, 3));
        noSuch(plate, "point -1", () -> plate.removePoint(0, -1));
        due(2, plate.removePoint(0, 1), "points left");
        due(20, plate.point(0, 1, 0), "frame of the next");
        due(5, plate.point(0, 1, 1), "x of the next");
        due(6, plate.point(0, 1, 2), "y of the next");
        due(1, plate.point(0, 0, 1), "x of the one before");
        due(3, plate.undo(), "undo");
        due(3, plate.point(0, 1, 1), "x brought back");
        plate.removePoint(0, 2);
        plate.removePoint(0, 0);
        due(0, plate.removePoint(0, 0), "none left");
        due(1, plate.whole(0), "the trail stays");
    }

    private static void set() {
        int[][] ranges = {{-5000, 5000}, {-100, 100}, {-100, 100}, {0, 500}, {0, 180000},
            {0, 5000}, {1, 1000}, {1, 100000}, {0, 359999}, {0, 9}};
        int[] first = {250, 0, 0, 5, 1000, 50, 100, 1000, 0, 3};
        ArcPlate plate = new ArcPlate();
        for (int what = 0; what < 10; what++) {
            int setting = what;
            int least = ranges[what][0];
            int most = ranges[what][1];
            due(first[what], plate.set(what, least), "before the least of " + what);
            due(least, plate.set(what, most), "before the most of " + what);
            due(most, plate.setting(what), "setting " + what);
            badValue(plate, what + " too small", () -> plate.set(setting, least - 1));
            badValue(plate, what + " too great", () -> plate.set(setting, most + 1));
        }
        badValue(plate, "setting -1", () -> plate.set(-1, 0));
        badValue(plate, "setting 10", () -> plate.set(10, 0));
        due(3, plate.undo(), "undo");
        due(0, plate.setting(9), "the limit brought back");
        due(359999, plate.setting(8), "the zero as it was");
    }

    private static void setPole() {
        ArcPlate plate = withPoints(1, 2100, 2000, 2000, 2100);
        badValue(plate, "x -2001", () -> plate.setPole(-2001, 0));
        badValue(plate, "x 6001", () -> plate.setPole(6001, 0));
        badValue(plate, "y -2001", () -> plate.setPole(0, -2001));
        badValue(plate, "y 6001", () -> plate.setPole(0, 6001));
        // From (2100, 2000) the radii are 0 and the root of 20000, which is 141.
        due(141, plate.setPole(2100, 2000), "cost");
        due(2100, plate.whole(2), "x of the pole");
        due(2000, plate.whole(3), "y of the pole");
        plate.setPole(-2000, 6000);
        due(-2000, plate.whole(2), "least x");
        due(6000, plate.whole(3), "most y");
        plate.setPole(6000, -2000);
        due(3, plate.undo(), "undo");
        due(-2000, plate.whole(2), "x brought back");
        due(6000, plate.whole(3), "y brought back");
    }

    private static void search() {
        ArcPlate plate = withPoints(1, 2010, 2000, 2000, 2010, 1990, 2000, 2000, 1990);
        badValue(plate, "step 0", () -> plate.search(0));
        badValue(plate, "step 513", () -> plate.search(513));
        due(0, plate.search(512), "nothing better than a cost of 0");
        due(3, plate.undo(), "a search without moves is undoable");
        plate.setPole(2008, 2000);
        // (2000, 2000) is 8 away, and no step of 8 but to the left leads to a cost of 0.
        due(1, plate.search(8), "one step");
        due(2000, plate.whole(2), "x found");
        due(2000, plate.whole(3), "y found");
        due(0, plate.whole(4), "cost found");
        plate.undo();
        due(2008, plate.whole(2), "x brought back");
        due(4, plate.search(12), "steps of 12, 6, 3 and 1");
        due(2000, plate.whole(2), "x found by them");
        due(2000, plate.whole(3), "y found by them");
        plate.setPole(1900, 2050);
        due(2, plate.search(100), "steps of 100, 50, 25, 12, 6, 3 and 1");
        due(1850, plate.whole(2), "x where it ends");
        due(2150, plate.whole(3), "y where it ends");
        due(14, plate.whole(4), "the cost where no step leads on");
    }

    private static void searchTakesTheFirst() {
        // The cost is the difference of the distances to two points: 2 * 100 on the line to them, less beside it.
        ArcPlate plate = withPoints(1, 3000, 2000, 2800, 2000);
        plate.setPole(2900, 2000);
        due(0, plate.search(512), "pole in the middle");
        plate.setPole(2900 + 64, 2000);
        // Of the three places on the middle line the one with the least j comes first.
        due(1, plate.search(64), "one step");
        due(2900, plate.whole(2), "x on the middle line");
        due(1936, plate.whole(3), "y of the first place");
        ArcPlate upright = withPoints(1, 2000, 3000, 2000, 2800);
        upright.setPole(2000, 2964);
        due(1, upright.search(64), "one step upwards");
        due(1936, upright.whole(2), "x of the first place, that with the least i");
        due(2900, upright.whole(3), "y on the middle line");
        // Down, and to the right: the only place of the eight with a cost of 0 is the last one.
        ArcPlate last = withPoints(1, 2010, 2000, 2000, 2010, 1990, 2000, 2000, 1990);
        last.setPole(1992, 1992);
        due(1, last.search(8), "one step to the last place");
        due(2000, last.whole(2), "x of the last place");
        due(2000, last.whole(3), "y of the last place");
    }

    private static void searchStaysInRange() {
        // Farther off the distances to both points would differ still less, but for the range.
        ArcPlate plate = withPoints(1, 4000, 1900, 4000, 2100);
        plate.setPole(6000, 6000);
        due(4, plate.search(100), "moves along the edge");
        due(6000, plate.whole(2), "x at its most");
        due(5600, plate.whole(3), "y then");
        due(174, plate.whole(4), "cost then");
        plate.setPole(-2000, -2000);
        due(10, plate.search(512), "moves from the corner");
        due(-2000, plate.whole(2), "x at its least");
        due(2000, plate.whole(3), "y as far from both points");
    }

    private static void addStar() {
        ArcPlate plate = new ArcPlate();
        badValue(plate, "radius 0", () -> plate.addStar(0, 0, 0));
        badValue(plate, "radius 100001", () -> plate.addStar(100001, 0, 0));
        badValue(plate, "angle -1", () -> plate.addStar(1, -1, 0));
        badValue(plate, "angle 360000", () -> plate.addStar(1, 360000, 0));
        badValue(plate, "brightness -1", () -> plate.addStar(1, 0, -1));
        badValue(plate, "brightness 10", () -> plate.addStar(1, 0, 10));
        due(0, plate.addStar(1, 0, 0), "the least star");
        due(1, plate.addStar(100000, 359999, 9), "the greatest star");
        due(100000, plate.star(1, 0), "its radius");
        due(359999, plate.star(1, 1), "its angle");
        due(9, plate.star(1, 2), "its brightness");
        for (int s = 2; s < 12; s++) {
            due(s, plate.addStar(s, s, 1), "star " + s);
        }
        badState(plate, "a 13th star", () -> plate.addStar(1, 0, 0));
        badValue(plate, "a 13th star with a bad radius", () -> plate.addStar(0, 0, 0));
        due(3, plate.undo(), "undo");
        due(11, plate.whole(1), "stars after undo");
    }

    private static void removeStar() {
        ArcPlate plate = new ArcPlate();
        noSuch(plate, "star 0 of none", () -> plate.removeStar(0));
        plate.addStar(10, 11, 1);
        plate.addStar(20, 21, 2);
        plate.addStar(30, 31, 3);
        noSuch(plate, "star 3", () -> plate.removeStar(3));
        noSuch(plate, "star -1", () -> plate.removeStar(-1));
        due(2, plate.removeStar(1), "stars left");
        due(10, plate.star(0, 0), "radius of the first");
        due(30, plate.star(1, 0), "radius of the next");
        due(31, plate.star(1, 1), "angle of the next");
        due(3, plate.star(1, 2), "brightness of the next");
        due(3, plate.undo(), "undo");
        due(20, plate.star(1, 0), "radius brought back");
    }

    private static void point() {
        ArcPlate plate = withTrails(1);
        plate.addPoint(0, 50, 2300, 1600);
        plate.set(1, -3);
        plate.set(2, 3);
        // floor(-150 / 100) is -2, floor(150 / 100) is 1.
        int[] values = {50, 2300, 1600, 2302, 1599};
        for (int what = 0; what < 5; what++) {
            due(values[what], plate.point(0, 0, what), "value " + what);
        }
        plate.set(1, 3);
        plate.set(2, -3);
        due(2299, plate.point(0, 0, 3), "x with the other drift");
        due(1602, plate.point(0, 0, 4), "y with the other drift");
        plate.set(1, 0);
        plate.set(2, 0);
        due(500, plate.point(0, 0, 5), "radius");
        noSuch(plate, "trail 1", () -> plate.point(1, 0, 0));
        noSuch(plate, "trail -1", () -> plate.point(-1, 0, 0));
        noSuch(plate, "point 1", () -> plate.point(0, 1, 0));
        noSuch(plate, "point -1", () -> plate.point(0, -1, 0));
        noSuch(plate, "point 1 of a bad value", () -> plate.point(0, 1, 7));
        badValue(plate, "value -1", () -> plate.point(0, 0, -1));
        badValue(plate, "value 7", () -> plate.point(0, 0, 7));
    }

    private static void pointRadiusAndAngle() {
        // Around (2000, 2000), with the angles that the steps of turning lead to.
        int[][] known = {{2000, 2000, 0, 0}, {2100, 2000, 100, 0}, {2000, 2100, 100, 90001}, {1900, 2000, 100, 180000},
            {2000, 1900, 100, 269999}, {2071, 2071, 100, 45000}, {1929, 2071, 100, 135000},
            {1929, 1929, 100, 225000}, {2071, 1929, 100, 315000}, {3000, 2001, 1000, 59},
            {2000, 2001, 1, 90043}, {1234, 3456, 1645, 117749}};
        ArcPlate plate = withTrails(1);
        for (int p = 0; p < known.length; p++) {
            plate.addPoint(0, p, known[p][0], known[p][1]);
            due(known[p][2], plate.point(0, p, 5), "radius at " + known[p][0] + ", " + known[p][1]);
            due(known[p][3], plate.point(0, p, 6), "angle at " + known[p][0] + ", " + known[p][1]);
        }
        plate.setPole(-2000, -2000);
        // Both sides 4000 long or so: the greatest number whose square is at most the sum.
        due(5656, plate.point(0, 0, 5), "radius from afar");
        ArcPlate far = withTrails(1);
        far.set(1, -100);
        far.set(2, -100);
        far.setPole(-2000, -2000);
        far.addPoint(0, 1000, 4000, 4000);
        due(5000, far.point(0, 0, 3), "x at its greatest");
        due(9899, far.point(0, 0, 5), "radius at its greatest");
        due(45000, far.point(0, 0, 6), "angle of the farthest place");
    }

    private static void trail() {
        ArcPlate plate = withPoints(100, 2010, 2000, 2000, 2013, 1987, 2000);
        int[] values = {3, 12, 3, 180000, 50000, 130000, 0, 0, NONE};
        for (int what = 0; what < values.length; what++) {
            due(values[what], plate.trail(0, what), "value " + what);
        }
        noSuch(plate, "trail 1", () -> plate.trail(1, 0));
        noSuch(plate, "trail -1", () -> plate.trail(-1, 0));
        noSuch(plate, "trail 1 of a bad value", () -> plate.trail(1, 9));
        badValue(plate, "value -1", () -> plate.trail(0, -1));
        badValue(plate, "value 9", () -> plate.trail(0, 9));
        plate.set(6, 99);
        due(2, plate.trail(0, 7), "gaps of steps of 100 beyond 99");
        plate.set(6, 100);
        due(0, plate.trail(0, 7), "gaps of steps of 100 up to 100");
    }

    private static void trailOfFewPoints() {
        ArcPlate plate = withTrails(1);
        int[] empty = {0, NONE, NONE, NONE, NONE, NONE, 0, 0, NONE};
        for (int what = 0; what < empty.length; what++) {
            due(empty[what], plate.trail(0, what), "value " + what + " without points");
        }
        plate.addPoint(0, 7, 2100, 2000);
        int[] single = {1, 100, 0, 0, 0, 0, 0, 0, NONE};
        for (int what = 0; what < single.length; what++) {
            due(single[what], plate.trail(0, what), "value " + what + " with one point");
        }
        plate.addStar(100, 358250, 0);
        due(0, plate.trail(0, 8), "star of a trail with one point");
        plate.addStar(50, 358250, 0);
        plate.removeStar(0);
        due(0, plate.trail(0, 8), "star 50 away");
        plate.set(5, 49);
        due(NONE, plate.trail(0, 8), "star beyond the tolerance");
    }

    private static void trailSweeps() {
        // From 45 degrees back to 315 the turn is -90, not 270, and the half circle is 180.
        ArcPlate back = withPoints(10, 2071, 2071, 2071, 1929);
        due(-90000, back.trail(0, 3), "sweep backwards");
        due(2500, back.trail(0, 4), "sweep expected");
        due(92500, back.trail(0, 5), "misfit");
        ArcPlate half = withPoints(10, 1900, 2000, 2100, 2000);
        due(180000, half.trail(0, 3), "sweep of half a circle from 180 to 0");
        ArcPlate other = withPoints(10, 2100, 2000, 1900, 2000);
        due(180000, other.trail(0, 3), "sweep of half a circle from 0 to 180");
        other.set(0, -5000);
        due(-50000, other.trail(0, 4), "sweep expected backwards");
        due(230000, other.trail(0, 5), "misfit of a wrong direction");
        // More than a circle is summed, not reduced.
        ArcPlate around = withPoints(10, 2100, 2000, 2000, 2100, 1900, 2000, 2000, 1900, 2100, 2000, 2000, 2100);
        due(450001, around.trail(0, 3), "sweep beyond a circle");
    }

    private static void trailIsGood() {
        ArcPlate plate = withPoints(100, 2100, 2000, 2000, 2105);
        // Radii 100 and 105, a turn of 90001.
        plate.set(0, 900);
        plate.set(4, 1);
        due(1, plate.trail(0, 5), "misfit");
        due(1, plate.trail(0, 6), "good at both tolerances");
        plate.set(4, 0);
        due(0, plate.trail(0, 6), "not good by its misfit");
        plate.set(4, 1);
        plate.set(3, 4);
        due(0, plate.trail(0, 6), "not good by its spread");
        plate.set(3, 5);
        due(1, plate.trail(0, 6), "good again");
        due(1, plate.whole(5), "good trails");
        plate.removePoint(0, 1);
        due(0, plate.trail(0, 6), "not good with one point");
    }

    private static void star() {
        ArcPlate plate = withPoints(10, 2100, 2000, 2000, 2100);
        plate.set(7, 1500);
        plate.addStar(67, 0, 3);
        int[] matched = {67, 0, 3, 100, 0, 0, 0};
        for (int what = 0; what < matched.length; what++) {
            due(matched[what], plate.star(0, what), "value " + what);
        }
        plate.addStar(67, 90000, 3);
        plate.addStar(67, 90000, 2);
        due(NONE, plate.star(1, 4), "trail of a star without a match");
        due(NONE, plate.star(1, 5), "cost of a star without a match");
        due(1, plate.star(1, 6), "missing at the limit");
        due(0, plate.star(2, 6), "not missing below the limit");
        noSuch(plate, "star 3", () -> plate.star(3, 0));
        noSuch(plate, "star -1", () -> plate.star(-1, 0));
        noSuch(plate, "star 3 of a bad value", () -> plate.star(3, 7));
        badValue(plate, "value -1", () -> plate.star(0, -1));
        badValue(plate, "value 7", () -> plate.star(0, 7));
        plate.addStar(100000, 0, 0);
        plate.set(7, 100000);
        due(10000000, plate.star(3, 3), "radius on the plate at its greatest");
        plate.set(7, 1);
        due(0, plate.star(0, 3), "radius on the plate at its least");
    }

    private static void starAngle() {
        ArcPlate plate = new ArcPlate();
        plate.addStar(1, 359999, 0);
        plate.set(8, 359999);
        due(359998, plate.starAngle(0, 0), "in frame 0");
        due(248, plate.starAngle(0, 1), "in frame 1");
        plate.set(0, -5000);
        due(39998, plate.starAngle(0, 1000), "in frame 1000, backwards: -4280002 modulo 360000");
        noSuch(plate, "star 1", () -> plate.starAngle(1, 0));
        noSuch(plate, "star -1 in a bad frame", () -> plate.starAngle(-1, 1001));
        badValue(plate, "frame -1", () -> plate.starAngle(0, -1));
        badValue(plate, "frame 1001", () -> plate.starAngle(0, 1001));
    }

    private static void cost() {
        ArcPlate plate = withPoints(10, 2100, 2000);
        plate.addStar(103, 572, 0);
        plate.addStar(97, 573, 0);
        plate.addStar(100, 359427, 0);
        plate.addStar(100, 180000, 0);
        due(3, plate.cost(0, 0), "572 * 100 / 57296 is below 1");
        due(4, plate.cost(0, 1), "573 * 100 / 57296 is above 1");
        due(1, plate.cost(0, 2), "573 backwards");
        due(314, plate.cost(0, 3), "half a circle");
        plate.set(8, 573);
        due(0, plate.cost(0, 2), "with the zero");
        plate.addTrail();
        plate.addPoint(1, 1000, 2100, 2000);
        due(191, plate.cost(1, 2), "turned by 250000 in 1000 frames: 110000 * 100 / 57296");
        plate.addTrail();
        due(NONE, plate.cost(2, 0), "without points");
        noSuch(plate, "trail 3", () -> plate.cost(3, 0));
        noSuch(plate, "trail -1", () -> plate.cost(-1, 0));
        noSuch(plate, "star 4", () -> plate.cost(0, 4));
        noSuch(plate, "star -1", () -> plate.cost(0, -1));
        noSuch(plate, "star 4 of a trail without points", () -> plate.cost(2, 4));
    }

    private static void costIsByTheFirstPoint() {
        ArcPlate plate = withPoints(100, 2100, 2000, 2000, 2120);
        plate.addStar(110, 0, 0);
        // The radius is that of the trail, floor((100 + 120) / 2); angle and frame are those of the first point.
        due(0, plate.cost(0, 0), "of the first point");
        plate.addPoint(0, 50, 2071, 2071);
        due(4, plate.cost(0, 0), "with the mean of three radii, floor(320 / 3)");
    }

    private static void costAtItsGreatest() {
        ArcPlate plate = withTrails(1);
        plate.set(0, 0);
        plate.set(1, -100);
        plate.set(2, -100);
        plate.set(7, 100000);
        plate.setPole(-2000, -2000);
        plate.addPoint(0, 1000, 4000, 4000);
        plate.addStar(100000, 225000, 0);
        due(10000000 - 9899 + 180000L * 9899 / 57296, plate.cost(0, 0), "the farthest trail and star");
    }

    private static void missing() {
        ArcPlate plate = withPoints(10, 2100, 2000);
        due(NONE, plate.missing(0), "without stars");
        plate.addStar(500, 0, 2);
        plate.addStar(500, 0, 3);
        plate.addStar(100, 0, 9);
        plate.addStar(500, 0, 9);
        due(1, plate.missing(0), "the first");
        due(3, plate.missing(1), "the second");
        due(NONE, plate.missing(2), "no third");
        due(NONE, plate.missing(Integer.MAX_VALUE), "none so far behind");
        badValue(plate, "index -1", () -> plate.missing(-1));
        plate.set(9, 0);
        due(0, plate.missing(0), "the first with a limit of 0");
        plate.set(9, 9);
        due(3, plate.missing(0), "the first with a limit of 9");
        plate.removePoint(0, 0);
        due(2, plate.missing(0), "the first without a match");
    }

    private static void setting() {
        ArcPlate plate = new ArcPlate();
        badValue(plate, "setting -1", () -> plate.setting(-1));
        badValue(plate, "setting 10", () -> plate.setting(10));
        int[] values = {-7, 8, -9, 10, 11, 12, 13, 14, 15, 6};
        for (int what = 0; what < values.length; what++) {
            plate.set(what, values[what]);
        }
        for (int what = 0; what < values.length; what++) {
            due(values[what], plate.setting(what), "setting " + what);
        }
    }

    private static ArcPlate twoTrailsAndStars() {
        ArcPlate plate = withPoints(200, 2100, 2000, 2071, 2071);
        plate.addTrail();
        plate.addPoint(1, 0, 2000, 2200);
        plate.addPoint(1, 400, 1800, 1990);
        plate.addTrail();
        plate.set(0, 225);
        plate.addStar(103, 0, 0);
        plate.addStar(196, 90001, 9);
        plate.addStar(5000, 0, 3);
        return plate;
    }

    private static void whole() {
        ArcPlate plate = twoTrailsAndStars();
        plate.setPole(2000, 1999);
        plate.setPole(2000, 2000);
        // The first trail has radii of 100 and 100 and turns by 45000 in 200 frames; the second one has 200 and 200,
        // and a misfit far beyond 1000 is not there: it turns by some 92860, 90000 is expected.
        int[] values = {3, 3, 2000, 2000, 0, 1, 2, 7, 1, 4, 2};
        for (int what = 0; what < values.length; what++) {
            due(values[what], plate.whole(what), "value " + what);
        }
        plate.set(6, 200);
        due(1, plate.whole(10), "gaps");
        plate.set(4, 5000);
        due(2, plate.whole(5), "good trails");
        badValue(plate, "value -1", () -> plate.whole(-1));
        badValue(plate, "value 11", () -> plate.whole(11));
    }

    private static void matchesByTheLeast() {
        // Both trails have radius 100 and angle 0 but for 2 and 1; star 0 is nearest to trail 1.
        ArcPlate plate = withPoints(1, 2102, 2000);
        plate.addTrail();
        plate.addPoint(1, 0, 2101, 2000);
        plate.set(0, 0);
        plate.addStar(100, 0, 0);
        due(NONE, plate.trail(0, 8), "the worse trail");
        due(0, plate.trail(1, 8), "the better trail");
        plate.addStar(150, 0, 0);
        due(1, plate.trail(0, 8), "the worse trail with what is left");
        due(0, plate.trail(1, 8), "the better trail still");
        due(48 + 1, plate.whole(7), "the sum is not the least one of all pairings");
        plate.addStar(100, 0, 0);
        due(2, plate.trail(0, 8), "the worse trail with an equal star");
        due(0, plate.trail(1, 8), "the better trail with the lowest of equal stars");
    }

    private static void matchesOfEqualCosts() {
        ArcPlate plate = new ArcPlate();
        plate.set(0, 0);
        for (int t = 0; t < 2; t++) {
            plate.addTrail();
            plate.addPoint(t, 5, 2100, 2000);
        }
        plate.addStar(100, 0, 0);
        due(0, plate.star(0, 4), "the lowest trail of equal ones");
        plate.addStar(100, 0, 0);
        due(0, plate.trail(0, 8), "the lowest star of equal ones");
        due(1, plate.trail(1, 8), "the other star");
        // A trail of the same cost comes before a star of the same cost.
        ArcPlate order = new ArcPlate();
        order.set(0, 0);
        order.addTrail();
        order.addTrail();
        order.addPoint(0, 0, 2101, 2000);
        order.addPoint(1, 0, 2099, 2000);
        order.addStar(98, 0, 0);
        order.addStar(102, 0, 0);
        order.addStar(100, 0, 0);
        due(1, order.trail(0, 8), "costs 3, 1, 1");
        due(0, order.trail(1, 8), "costs 1, 3, 1");
        due(0, order.star(2, 6), "the third star is dim");
    }

    private static void costAt() {
        ArcPlate plate = withPoints(10, 2100, 2000, 2000, 2100, 2300, 2400);
        plate.addTrail();
        plate.addPoint(1, 0, 2000, 3000);
        due(400, plate.costAt(2000, 2000), "radii 100, 100 and 500");
        due(2000, plate.whole(2), "the pole stays");
        plate.addPoint(1, 100, 2000, 2500);
        due(900, plate.costAt(2000, 2000), "with a second trail");
        plate.set(1, 100);
        // Radii 100, 100, 488 and 1000, 509.
        due(388 + 491, plate.costAt(2000, 2000), "with a drift");
        badValue(plate, "x -2001", () -> plate.costAt(-2001, 0));
        badValue(plate, "x 6001", () -> plate.costAt(6001, 0));
        badValue(plate, "y -2001", () -> plate.costAt(0, -2001));
        badValue(plate, "y 6001", () -> plate.costAt(0, 6001));
        long before = plate.digest();
        plate.costAt(-2000, 6000);
        plate.costAt(6000, -2000);
        due(before, plate.digest(), "nothing changes");
    }

    private static void meanRate() {
        ArcPlate plate = withTrails(1);
        due(NONE, plate.meanRate(), "without a good trail");
        // 45000 in 200 frames, and -90000 in 3 frames that count once they are within the tolerance.
        ArcPlate two = withPoints(200, 2100, 2000, 2071, 2071);
        two.set(0, 225);
        due(225, two.meanRate(), "of one trail");
        two.addTrail();
        two.addPoint(1, 0, 2071, 2071);
        two.addPoint(1, 3, 2071, 1929);
        due(225, two.meanRate(), "of the good trail alone");
        two.set(4, 180000);
        due(-222, two.meanRate(), "of both: -45000 / 203, rounded down");
        ArcPlate uneven = withPoints(11, 2100, 2000, 2071, 2071);
        uneven.set(0, 4091);
        due(4090, uneven.meanRate(), "45000 / 11, rounded down");
        ArcPlate brief = withPoints(1, 2100, 2000, 2071, 2071);
        brief.set(4, 180000);
        due(45000, brief.meanRate(), "45000 in one frame");
    }

    private static void meanScale() {
        ArcPlate plate = twoTrailsAndStars();
        due(1003, plate.meanScale(), "of two matches: 300000 / 299");
        plate.set(5, 3);
        due(970, plate.meanScale(), "of the first match: 100000 / 103");
        plate.set(5, 0);
        due(NONE, plate.meanScale(), "without a match");
        due(NONE, new ArcPlate().meanScale(), "of a new plate");
    }

    private static void bestZero() {
        due(NONE, new ArcPlate().bestZero(), "of a new plate");
        ArcPlate plate = withTrails(2);
        plate.addStar(100, 40000, 0);
        due(NONE, plate.bestZero(), "of trails without points");
        plate.addPoint(1, 10, 2071, 2071);
        due(2500, plate.bestZero(), "45000 less 40000 less 2500");
        plate.removeStar(0);
        due(NONE, plate.bestZero(), "without stars");
        plate.addStar(90000, 50000, 0);
        due(352500, plate.bestZero(), "whatever the radii are: 45000 less 50000 less 2500, of no matches");
        plate.addStar(90000, 42600, 0);
        due(352500, plate.bestZero(), "the lowest one of 352500 and 359900");
        plate.addStar(90000, 42400, 0);
        due(100, plate.bestZero(), "the lowest one of 352500, 359900 and 100");
        long before = plate.digest();
        plate.bestZero();
        due(before, plate.digest(), "digest() after bestZero");
    }

    private static void bestZeroByMatches() {
        // Radii 100 and 300, angles 0 and 90001.
        ArcPlate plate = withPoints(10, 2100, 2000);
        plate.addTrail();
        plate.addPoint(1, 0, 2000, 2300);
        int angle = plate.point(1, 0, 6);
        plate.addStar(100, 359990, 0);
        due(10, plate.bestZero(), "the only star brings the first trail to 10, the second one far behind");
        plate.addStar(100, 10000, 0);
        plate.addStar(300, angle + 10000, 0);
        due(350000, plate.bestZero(), "two matches rather than a low zero");
        plate.removeStar(2);
        plate.addStar(300, angle + 9427, 0);
        // By 350000 the costs are 0 and 3, by 350573 they are 1 and 0.
        due(350573, plate.bestZero(), "the least sum of costs rather than the lower zero");
        due(0, plate.setting(8), "the zero stays");
    }

    private static void bestDrift() {
        ArcPlate plate = withPoints(100, 2100, 2000, 2103, 2000);
        badValue(plate, "most -1", () -> plate.bestDrift(-1));
        badValue(plate, "most 6", () -> plate.bestDrift(6));
        due(100100, plate.bestDrift(0), "the present one");
        // The spread is 3 less u; v of some few makes no difference to the radius.
        due(102098, plate.bestDrift(2), "u up to 2");
        due(103097, plate.bestDrift(3), "u up to 3");
        due(103095, plate.bestDrift(5), "u up to 5");
        due(0, plate.setting(1), "u stays");
        due(0, plate.setting(2), "v stays");
        plate.set(2, 3);
        due(103098, plate.bestDrift(5), "v from -2 on");
    }

    private static void bestDriftInRange() {
        ArcPlate plate = new ArcPlate();
        plate.set(1, -100);
        plate.set(2, 100);
        due(195, plate.bestDrift(5), "least u, v from 95 on");
        plate.set(1, 100);
        plate.set(2, -100);
        due(195000, plate.bestDrift(5), "u from 95 on, least v");
        ArcPlate fast = withPoints(100, 2100, 2000, 2205, 2000);
        fast.set(1, 100);
        due(200095, fast.bestDrift(5), "u up to 100, though 105 would fit");
        ArcPlate steep = withPoints(100, 2000, 2100, 2000, 2205);
        steep.set(2, 100);
        due(95200, steep.bestDrift(5), "v up to 100, though 105 would fit");
    }

    private static void type() {
        ArcPlate plate = new ArcPlate();
        badValue(plate, "byte -1", () -> plate.type(-1));
        badValue(plate, "byte 128", () -> plate.type(128));
        due(1, plate.type(0), "the least byte");
        due(2, plate.type(127), "the greatest byte");
        for (int i = 3; i <= 150; i++) {
            due(i, plate.type(' '), "byte " + i);
        }
        badState(plate, "byte 151", () -> plate.type(' '));
        badValue(plate, "a bad byte 151", () -> plate.type(128));
        badState(plate, "undo: nothing is saved", plate::undo);
    }

    private static void clearCommands() {
        ArcPlate plate = new ArcPlate();
        write(plate, "trail; trail;");
        due(13, plate.clearCommands(), "length");
        due(0, plate.clearCommands(), "length of none");
        due(0, plate.runCommands(), "no commands are left");
        due(0, plate.whole(0), "no trails");
        write(plate, " ".repeat(150));
        due(150, plate.clearCommands(), "length at its greatest");
        due(1, plate.type('x'), "room again");
    }

    private static void runCommands() {
        ArcPlate plate = new ArcPlate();
        due(8, run(plate, "trail;point 0 7 2100 1990 ; star 103 4 9;pole 2001 1999;set 7 2000; back 30;set 8 5;search 1;"),
            "every word");
        due(0, plate.stop(), "stop");
        due(1, plate.trail(0, 0), "points");
        due(7, plate.point(0, 0, 0), "frame");
        due(2100, plate.point(0, 0, 1), "x");
        due(1990, plate.point(0, 0, 2), "y");
        due(103, plate.star(0, 0), "radius of the star");
        due(4, plate.star(0, 1), "angle of the star");
        due(9, plate.star(0, 2), "brightness of the star");
        due(2001, plate.whole(2), "x of the pole");
        due(1999, plate.whole(3), "y of the pole");
        due(2000, plate.setting(7), "scale");
        due(5, plate.setting(8), "zero");
        due(-30, plate.setting(0), "rate");
        due(1, plate.runCommands(), "the text stays, and is run again, up to the frame that is there");
        due(3, plate.stop(), "stop then");
        due(2, plate.whole(0), "trails then");
    }

    private static void runSearches() {
        ArcPlate plate = withPoints(1, 2010, 2000, 2000, 2010, 1990, 2000, 2000, 1990);
        plate.setPole(2008, 2000);
        due(1, run(plate, "search 8;"), "a search");
        due(2000, plate.whole(2), "x found");
        due(2000, plate.whole(3), "y found");
    }

    private static void runUntilTheStop() {
        String[] texts = {"trail; point 1 0 0 0; trail;", "trail; point 0 1001 0 0; trail;", "trail; star 0 0 0; trail;",
            "trail; pole 6001 0; trail;", "trail; set 10 0; trail;", "trail; back 5001; trail;", "trail; search 0; trail;",
            "trail; search 513; trail;", "trail; star 1 360000 0; trail;", "trail; point 0 1 999999 0; trail;",
            "trail; point 0 1 1 4001; trail;", "trail; set 0 5001; trail;", "trail; star 1 7 10; trail;",
            "trail; pole 0 6001; trail;", "trail; set 6 0; trail;", "trail; star 100001 0 0; trail;"};
        for (int i = 0; i < texts.length; i++) {
            ArcPlate fresh = new ArcPlate();
            due(1, run(fresh, texts[i]), texts[i]);
            due(i == 0 ? 1 : 2, fresh.stop(), "stop of " + texts[i]);
            due(1, fresh.whole(0), "trails by " + texts[i]);
        }
        ArcPlate plate = new ArcPlate();
        due(2, run(plate, "trail;point 0 1 1 1;point 0 1 2 2;trail;"), "the same frame again");
        due(3, plate.stop(), "its stop");
        due(1, plate.trail(0, 0), "points");
        due(11, run(plate, "trail;".repeat(12)), "too many trails");
        due(3, plate.stop(), "their stop");
        due(0, run(plate, "point 12 0 0 0;"), "no such trail, as the first command");
        due(1, plate.stop(), "its stop");
        due(0, run(plate, " "), "without commands");
        due(0, plate.stop(), "no stop then");
        due(0, run(plate, "search 0;"), "a bad step, as the first command");
        due(1, run(plate, "search 1;"), "a good one");
        due(0, plate.stop(), "no stop of it");
    }

    private static void faults() {
        String[] texts = {"trail", "trail ", "trai", "trails;", "  foo", "Trail;", "trAil;", "trail;x", "trail;;", ";",
            "trail 5;", "trail5;", "set 3 7", "set 3;", "set 3 ;", "set3 7;", "set 3 7 8;", "set 3 1234567;", "set 3 -7;",
            "set\t3 7;", "search 5x", "search 5 x", "back", "back 1", "trail; sta", "trail; star", "5;", "set", "set ",
            "point 0 1 2;", "star 1 2 3 4;", "pole 1;", "search;", "back ;", "trail; trail, trail;", "setx", "set{", "`",
            "trailz;", "z", "xrail;", "ztar 1 1 1;", "stat 1 1 1;", "sea", "searc 1;", "searchh 1;", "p", "b",
            "search 5/", "search 5:", "search 0000001;", "trail ;  trail  :", "trail;trail;pole 1 1", "se t;", "TRAIL;"};
        int[] due = {5, 6, 0, 0, 2, 0, 0, 6, 6, 0,
            6, 5, 7, 5, 6, 3, 8, 12, 6,
            3, 8, 9, 4, 6, 7, 11, 0, 3, 4,
            11, 11, 6, 6, 5, 12, 0, 3, 0,
            0, 0, 0, 0, 0, 0, 0, 0, 0, 0,
            8, 8, 13, 16, 20, 0, 0};
        due(texts.length, due.length, "texts");
        for (int i = 0; i < texts.length; i++) {
            ArcPlate plate = new ArcPlate();
            due(-10 - due[i], run(plate, texts[i]), "\"" + texts[i] + "\"");
            due(texts[i].length(), plate.clearCommands(), "length of it");
            due(0, plate.whole(0), "trails by it");
            badState(plate, "undo: nothing is saved", plate::undo);
        }
    }

    private static void textsWithoutFault() {
        String[] texts = {"", " ", "   ", "trail;", " trail;", "trail ;", "trail; ", "  trail  ;  ", "trail;trail;",
            "set 3 7;", "set  3   7 ;", "set 3 000007;", "set 000003 7;", "search 1;  back 5 ;", "pole 0 0;", "trail   ;trail;",
            "back 0;"};
        int[] due = {0, 0, 0, 1, 1, 1, 1, 1, 2, 1, 1, 1, 1, 2, 1, 2, 1};
        for (int i = 0; i < texts.length; i++) {
            ArcPlate plate = new ArcPlate();
            due(due[i], run(plate, texts[i]), "\"" + texts[i] + "\"");
            due(0, plate.stop(), "stop of it");
            due(0, plate.undo(), "undo: one state is saved");
        }
        ArcPlate full = new ArcPlate();
        due(22, run(full, "back 1;" + "back 2;".repeat(16) + " " + "trail;".repeat(5)), "a text of 150 bytes");
        due(2, -full.setting(0), "the last rate");
    }

    private static void runIsUndoable() {
        ArcPlate plate = withTrails(1);
        due(3, run(plate, "trail;trail;trail;point 9 0 0 0;"), "three trails");
        due(1, plate.undo(), "one state for the whole run");
        due(1, plate.whole(0), "trails after undo");
        due(1, plate.stop(), "the stop stays");
        due(3, plate.runCommands(), "the text stays");
        due(-15, run(plate, "trail"), "a fault");
        due(1, plate.stop(), "the stop stays with a fault");
        due(1, plate.undo(), "a run with a fault saves nothing");
        due(1, plate.whole(0), "trails after undo");
    }

    private static void stop() {
        ArcPlate plate = new ArcPlate();
        due(0, plate.stop(), "without a run");
        due(-10, run(plate, "nothing;"), "a fault");
        due(0, plate.stop(), "with a fault alone");
        run(plate, "star 0 0 0;");
        due(2, plate.stop(), "of an argument");
        try {
            plate.removeStar(0);
        } catch (IndexOutOfBoundsException e) {
            due(2, plate.stop(), "not of calls");
        }
        plate.clearCommands();
        due(2, plate.stop(), "after the text is gone");
        plate.runCommands();
        due(0, plate.stop(), "of an empty run");
    }

    private static void undo() {
        ArcPlate plate = new ArcPlate();
        badState(plate, "undo of nothing", plate::undo);
        for (int n = 1; n <= 6; n++) {
            plate.set(0, n);
        }
        int[] before = {5, 4, 3, 2};
        for (int n = 0; n < 4; n++) {
            due(3 - n, plate.undo(), "undo");
            due(before[n], plate.setting(0), "the rate brought back");
        }
        badState(plate, "undo of the fifth", plate::undo);
        plate.set(0, 2);
        due(0, plate.undo(), "a call that changes nothing is undoable");
        plate.set(0, 8);
        plate.set(0, 9);
        plate.undo();
        plate.set(0, 10);
        plate.undo();
        due(8, plate.setting(0), "the rate after other ways");
        due(0, plate.undo(), "the first of them");
        due(2, plate.setting(0), "the rate as at first");
    }

    /** A plate after the first of four changes. */
    private static ArcPlate changed(int changes) {
        ArcPlate plate = twoTrailsAndStars();
        plate.setPole(2001, 2002);
        plate.set(0, 225);
        for (int n = 0; n < changes; n++) {
            if (n == 0) {
                plate.removeTrail(0);
            } else if (n == 1) {
                plate.removeStar(0);
            } else if (n == 2) {
                plate.removePoint(0, 0);
            } else {
                run(plate, "set 1 5;set 2 6;set 3 7;set 4 8;set 5 9;set 6 10;set 7 11;set 8 12;set 9 1;back 3;trail;pole 1 2;");
            }
        }
        return plate;
    }

    private static void undoOfEverything() {
        for (int n = 0; n < 4; n++) {
            ArcPlate plate = changed(4);
            for (int back = 4; back > n; back--) {
                plate.undo();
            }
            due(withoutStack(changed(n)), withoutStack(plate), "the state before change " + n);
        }
    }

    /** Everything of the state that undo brings back. */
    private static long withoutStack(ArcPlate plate) {
        return hashOf(plate, 0, 0, 0);
    }

    private static long hashOf(ArcPlate plate, int saved, int length, int stop) {
        long h = hash(saved, length, stop);
        for (int what = 0; what <= 10; what++) {
            h = 31 * h + plate.whole(what);
        }
        for (int what = 0; what <= 9; what++) {
            h = 31 * h + plate.setting(what);
        }
        for (int t = 0; t < plate.whole(0); t++) {
            for (int what = 0; what <= 8; what++) {
                h = 31 * h + plate.trail(t, what);
            }
            for (int p = 0; p < plate.trail(t, 0); p++) {
                for (int what = 0; what <= 6; what++) {
                    h = 31 * h + plate.point(t, p, what);
                }
            }
        }
        for (int s = 0; s < plate.whole(1); s++) {
            for (int what = 0; what <= 6; what++) {
                h = 31 * h + plate.star(s, what);
            }
        }
        return h;
    }

    private static void digest() {
        ArcPlate plate = new ArcPlate();
        due(hash(0, 0, 0, 0, 0, 2000, 2000, 0, 0, 0, 0, 0, 0, 0, 250, 0, 0, 5, 1000, 50, 100, 1000, 0, 3),
            plate.digest(), "digest of a new plate");
        ArcPlate full = twoTrailsAndStars();
        due(hashOf(full, 4, 0, 0), full.digest(), "digest of a plate");
        run(full, "trail;star 0 0 0;");
        due(hashOf(full, 4, 17, 2), full.digest(), "digest with a text and a stop");
        full.undo();
        due(hashOf(full, 3, 17, 2), full.digest(), "digest after undo");
        due(full.digest(), full.digest(), "digest twice");
    }

    private static void testChanges() {
        tell("promise 1");
        newObject();
        tell("promise 2");
        addTrail();
        addTrailAfterRemoval();
        tell("promise 3");
        removeTrail();
        tell("promise 4");
        addPoint();
        addPointRefused();
        tell("promise 5");
        removePoint();
        tell("promise 6");
        set();
        tell("promise 7");
        setPole();
        tell("promise 8");
        search();
        searchTakesTheFirst();
        searchStaysInRange();
        tell("promise 9");
        addStar();
        tell("promise 10");
        removeStar();
    }

    private static void testValues() {
        tell("promise 11");
        point();
        pointRadiusAndAngle();
        tell("promise 12");
        trail();
        trailOfFewPoints();
        trailSweeps();
        trailIsGood();
        tell("promise 13");
        star();
        matchesByTheLeast();
        matchesOfEqualCosts();
        tell("promise 14");
        starAngle();
        tell("promise 15");
        cost();
        costIsByTheFirstPoint();
        costAtItsGreatest();
        tell("promise 16");
        missing();
        tell("promise 17");
        setting();
        tell("promise 18");
        whole();
    }

    private static void testWhatIf() {
        tell("promise 19");
        costAt();
        tell("promise 20");
        meanRate();
        tell("promise 21");
        meanScale();
        tell("promise 22");
        bestZero();
        bestZeroByMatches();
        tell("promise 23");
        bestDrift();
        bestDriftInRange();
    }

    private static void testCommands() {
        tell("promise 24");
        type();
        tell("promise 25");
        clearCommands();
        tell("promise 26");
        runCommands();
        runSearches();
        runUntilTheStop();
        faults();
        textsWithoutFault();
        runIsUndoable();
        tell("promise 27");
        stop();
        tell("promise 28");
        undo();
        undoOfEverything();
        tell("promise 29");
        digest();
    }

    public static void main(String[] args) {
        testChanges();
        testValues();
        testWhatIf();
        testCommands();
        end();
    }
}
