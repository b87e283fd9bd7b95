/**
 * The edges of trails: how many there are and how they are numbered, frames, places less the drift, radii, spreads,
 * the cost of the plate, what is expected of a sweep, good trails, gaps, the mean rate and the best drift.
 */
public final class TrailEdgeTest extends Checks {
    private static void atMostTwelveTrails() {
        tell("at most 12 trails, numbered from 0");
        ArcPlate plate = new ArcPlate();
        for (int t = 0; t < 12; t++) {
            due(t, plate.addTrail(), "number of a new trail");
        }
        badState(plate, "a 13th trail", plate::addTrail);
        due(12, plate.whole(0), "trails after a 13th was refused");
        for (int round = 0; round < 2; round++) {
            due(11, plate.removeTrail(11 * round), "trails left of 12");
            due(11, plate.addTrail(), "number of the 12th trail again");
            badState(plate, "a 13th trail again", plate::addTrail);
        }
        for (int left = 11; left >= 0; left--) {
            due(left, plate.removeTrail(left / 2), "trails left");
        }
        noSuch(plate, "removing one more", () -> plate.removeTrail(0));
        due(0, plate.whole(0), "trails when all are gone");
        due(0, plate.addTrail(), "number of the first trail again");
    }

    private static void trailsHaveNoPointsAtFirst() {
        tell("promise 2: a trail without points, also where one with points has been");
        ArcPlate plate = withTrails(2);
        for (int p = 0; p < 12; p++) {
            plate.addPoint(1, p, p, p);
        }
        plate.removeTrail(1);
        plate.addTrail();
        dueTrail(plate, 1, 0, NONE, NONE, NONE, NONE, NONE, 0, 0, NONE);
        due(0, plate.addPoint(1, 5, 1, 2), "the first point of the new trail");
        dueFrames(plate, 1, 5);
        due(1, plate.whole(9), "points in all");
    }

    /** Twelve trails; trail t has t points, in frames 10 t, 10 t + 1, .. */
    private static ArcPlate stairs() {
        ArcPlate plate = withTrails(12);
        for (int t = 0; t < 12; t++) {
            for (int p = 0; p < t; p++) {
                plate.addPoint(t, 10 * t + p, 100 * t + p, 3000 + 10 * t + p);
            }
        }
        return plate;
    }

    private static void dueStep(ArcPlate plate, int trail, int was) {
        due(was, plate.trail(trail, 0), "points of what was trail " + was);
        for (int p = 0; p < was; p++) {
            due(10 * was + p, plate.point(trail, p, 0), "frame of what was trail " + was);
            due(100 * was + p, plate.point(trail, p, 1), "x of what was trail " + was);
            due(3000 + 10 * was + p, plate.point(trail, p, 2), "y of what was trail " + was);
        }
    }

    private static void removedTrails() {
        tell("promise 3: the numbers of those behind it decrease by 1, those before it stay");
        for (int gone : new int[] {0, 1, 6, 10, 11}) {
            ArcPlate plate = stairs();
            due(11, plate.removeTrail(gone), "trails left");
            for (int t = 0; t < 11; t++) {
                dueStep(plate, t, t < gone ? t : t + 1);
            }
            noSuch(plate, "trail 11 then", () -> plate.trail(11, 0));
            due(66 - gone, plate.whole(9), "points left in all");
            plate.undo();
            dueStep(plate, gone, gone);
            dueStep(plate, 11, 11);
        }
    }

    private static void atMostTwelvePoints() {
        tell("a trail has at most 12 points");
        ArcPlate plate = withTrails(2);
        for (int p = 0; p < 12; p++) {
            due(p, plate.addPoint(1, 10 * p, p, p), "number of a point");
        }
        badState(plate, "a 13th point", () -> plate.addPoint(1, 500, 0, 0));
        badState(plate, "a 13th point before the others", () -> plate.addPoint(1, 5, 0, 0));
        badState(plate, "a 13th point with a frame that is there", () -> plate.addPoint(1, 0, 0, 0));
        due(12, plate.trail(1, 0), "points after a 13th was refused");
        due(0, plate.addPoint(0, 500, 1, 1), "a point of another trail");
        due(11, plate.removePoint(1, 3), "points left of 12");
        due(1, plate.addPoint(1, 5, 0, 0), "the 12th point again, between others");
        badState(plate, "a 13th point again", () -> plate.addPoint(1, 500, 0, 0));
        for (int left = 11; left >= 0; left--) {
            due(left, plate.removePoint(1, left / 2), "points left");
        }
        noSuch(plate, "removing one more", () -> plate.removePoint(1, 0));
        due(2, plate.whole(0), "trails when all points of one are gone");
        due(0, plate.addPoint(1, 500, 0, 0), "the first point again");
    }

    private static void pointsByTheirFrames() {
        tell("points are numbered in the order of their frames");
        int[] frames = {500, 1000, 0, 501, 499, 1, 999, 250, 750, 2, 998, 251};
        int[] numbers = {0, 1, 0, 2, 1, 1, 5, 2, 6, 2, 8, 4};
        ArcPlate plate = withTrails(1);
        for (int i = 0; i < frames.length; i++) {
            due(numbers[i], plate.addPoint(0, frames[i], frames[i] + 1, frames[i] + 2), "point of frame " + frames[i]);
        }
        dueFrames(plate, 0, 0, 1, 2, 250, 251, 499, 500, 501, 750, 998, 999, 1000);
        for (int p = 0; p < 12; p++) {
            due(plate.point(0, p, 0) + 1, plate.point(0, p, 1), "x goes with its frame");
            due(plate.point(0, p, 0) + 2, plate.point(0, p, 2), "y goes with its frame");
        }
        ArcPlate falling = withTrails(1);
        for (int p = 0; p < 12; p++) {
            due(0, falling.addPoint(0, 1000 - p, p, p), "each before the others");
        }
        dueFrames(falling, 0, 989, 990, 991, 992, 993, 994, 995, 996, 997, 998, 999, 1000);
    }

    private static void noFrameTwice() {
        tell("no two points of a trail have the same frame");
        for (int frame : new int[] {0, 1, 500, 999, 1000}) {
            ArcPlate plate = withTrails(2);
            plate.addPoint(0, frame, 7, 8);
            badState(plate, "frame " + frame + " again", () -> plate.addPoint(0, frame, 7, 8));
            badState(plate, "frame " + frame + " elsewhere", () -> plate.addPoint(0, frame, 4000, 4000));
            due(0, plate.addPoint(1, frame, 7, 8), "frame " + frame + " in another trail");
            due(0, plate.removePoint(0, 0), "points left");
            due(0, plate.addPoint(0, frame, 9, 9), "frame " + frame + " once it is free");
            int next = frame < 1000 ? frame + 1 : 999;
            due(frame < 1000 ? 1 : 0, plate.addPoint(0, next, 7, 8), "the frame beside it");
        }
        // Frames that are there stay refused wherever they stand among others.
        ArcPlate plate = withPoints(10, 1, 1, 2, 2, 3, 3);
        for (int frame = 0; frame <= 20; frame += 10) {
            int taken = frame;
            badState(plate, "frame " + frame, () -> plate.addPoint(0, taken, 5, 5));
        }
        due(3, plate.addPoint(0, 30, 5, 5), "a frame behind them");
    }

    private static void removedPoints() {
        tell("promise 5: the first, one between and the last point");
        int[][] left = {{10, 20, 30}, {0, 20, 30}, {0, 10, 30}, {0, 10, 20}};
        for (int gone = 0; gone < 4; gone++) {
            ArcPlate plate = withPoints(10, 1, 5, 2, 6, 3, 7, 4, 8);
            due(3, plate.removePoint(0, gone), "points left");
            dueFrames(plate, 0, left[gone]);
            for (int p = 0; p < 3; p++) {
                due(left[gone][p] / 10 + 1, plate.point(0, p, 1), "x of point " + p);
                due(left[gone][p] / 10 + 5, plate.point(0, p, 2), "y of point " + p);
            }
            noSuch(plate, "point 3 then", () -> plate.point(0, 3, 0));
        }
    }

    private static void placesAreFloored() {
        tell("the place is x - floor(u * t / 100), y - floor(v * t / 100)");
        int[][] known = {{1, 0, 0}, {1, 1, 0}, {1, 99, 0}, {1, 100, 1}, {1, 101, 1}, {1, 199, 1}, {1, 200, 2},
            {-1, 0, 0}, {-1, 1, -1}, {-1, 99, -1}, {-1, 100, -1}, {-1, 101, -2}, {-1, 200, -2}, {-1, 201, -3},
            {33, 3, 0}, {34, 3, 1}, {-33, 3, -1}, {-34, 3, -2}, {99, 1, 0}, {100, 1, 1}, {-99, 1, -1}, {-100, 1, -1},
            {100, 1000, 1000}, {-100, 1000, -1000}, {99, 1000, 990}, {-99, 999, -990}, {0, 1000, 0}};
        for (int[] row : known) {
            ArcPlate plate = withTrails(1);
            plate.addPoint(0, row[1], 2000, 3000);
            plate.set(1, row[0]);
            due(2000 - row[2], plate.point(0, 0, 3), "x with u " + row[0] + " in frame " + row[1]);
            due(3000, plate.point(0, 0, 4), "y without v");
            plate.set(1, 0);
            plate.set(2, row[0]);
            due(3000 - row[2], plate.point(0, 0, 4), "y with v " + row[0] + " in frame " + row[1]);
            due(2000, plate.point(0, 0, 3), "x without u");
            due(2000, plate.point(0, 0, 1), "measured x");
            due(3000, plate.point(0, 0, 2), "measured y");
        }
    }

    private static void placesMayLieOffThePlate() {
        tell("places with a drift are not held on the plate");
        ArcPlate plate = withTrails(1);
        plate.addPoint(0, 1000, 0, 4000);
        plate.set(1, 100);
        plate.set(2, -100);
        due(-1000, plate.point(0, 0, 3), "x below 0");
        due(5000, plate.point(0, 0, 4), "y above 4000");
        plate.setPole(6000, -2000);
        // The root of 7000 * 7000 + 7000 * 7000.
        due(9899, plate.point(0, 0, 5), "the greatest radius");
        due(135000, plate.point(0, 0, 6), "its angle");
    }

    private static void rootsBesideSquares() {
        tell("the root is the greatest number whose square is at most n");
        int[][] known = {{0, 0, 0}, {1, 0, 1}, {1, 1, 1}, {2, 0, 2}, {2, 1, 2}, {2, 2, 2}, {3, 0, 3}, {3, 1, 3},
            {8, 4, 8}, {9, 0, 9}, {9, 1, 9}, {3, 4, 5}, {32, 100, 104}, {105, 0, 105}, {105, 1, 105}, {370, 4018, 4034},
            {100, 5000, 5000}, {238, 5662, 5666}, {6000, 6000, 8485}};
        for (int[] row : known) {
            for (int sign = 0; sign < 4; sign++) {
                int dx = sign < 2 ? row[0] : -row[0];
                int dy = sign % 2 == 0 ? row[1] : -row[1];
                due(row[2], around(1, dx, dy).point(0, 0, 5), "radius of " + dx + ", " + dy);
                due(row[2], around(1, dy, dx).point(0, 0, 5), "radius of " + dy + ", " + dx);
            }
        }
    }

    private static void meanRadii() {
        tell("the radius of a trail is floor(sum of the radii / number of points)");
        due(100, around(1, 100, 0).trail(0, 1), "one radius");
        due(100, around(1, 100, 0, 101, 0).trail(0, 1), "201 / 2");
        due(101, around(1, 100, 0, 102, 0).trail(0, 1), "202 / 2");
        due(100, around(1, 100, 0, 100, 0, 102, 0).trail(0, 1), "302 / 3");
        due(101, around(1, 100, 0, 101, 0, 102, 0).trail(0, 1), "303 / 3");
        due(0, around(1, 0, 0, 1, 0).trail(0, 1), "1 / 2");
        due(0, around(1, 0, 0, 0, 0).trail(0, 1), "0 / 2");
        // The mean is that of the radii, each of which is a root already.
        due(1, around(1, 1, 1, 1, 1, 2, 2).trail(0, 1), "(1 + 1 + 2) / 3");
    }

    private static void spreads() {
        tell("the spread is the greatest radius minus the least one, wherever they stand");
        int[][] places = {{100, 0, 107, 0, 103, 0}, {107, 0, 100, 0, 103, 0}, {103, 0, 107, 0, 100, 0},
            {103, 0, 100, 0, 107, 0}, {0, 100, -107, 0, 0, -103}};
        for (int[] row : places) {
            due(7, around(1, row).trail(0, 2), "spread of three");
            due(7, around(1, row).whole(4), "cost of the plate");
        }
        due(0, around(1, 100, 0, 0, 100).trail(0, 2), "spread of equal radii");
        due(0, around(1, 100, 0).trail(0, 2), "spread of one point");
        due(5000, around(1, 0, 0, 3000, 4000).trail(0, 2), "spread from a radius of 0");
        due(1, around(1, 2, 2, 3, 0).trail(0, 2), "spread of the roots 2 and 3");
    }

    private static void costOfThePlate() {
        tell("the cost of the plate is the sum of the spreads of all trails with at least 2 points");
        ArcPlate plate = new ArcPlate();
        due(0, plate.whole(4), "without trails");
        due(0, plate.setPole(-2000, 6000), "by setPole without trails");
        due(0, plate.costAt(6000, 6000), "by costAt without trails");
        plate.setPole(2000, 2000);
        plate.addTrail();
        due(0, plate.whole(4), "of a trail without points");
        plate.addPoint(0, 0, 2500, 2000);
        due(0, plate.whole(4), "of a trail with one point");
        plate.addTrail();
        plate.addPoint(1, 0, 2010, 2000);
        plate.addPoint(1, 1, 2013, 2000);
        due(3, plate.whole(4), "of a trail with two points beside them");
        plate.addPoint(0, 1, 2600, 2000);
        plate.addTrail();
        due(103, plate.whole(4), "of both");
        due(103, plate.costAt(2000, 2000), "by costAt");
        due(103, plate.setPole(2000, 2000), "by setPole");
        due(103, plate.costAt(1000, 2000), "from 1000 farther off on the same line");
        due(fullPlate().whole(4), fullPlate().costAt(2000, 2000), "of a full plate, by costAt");
    }

    private static void costsWithADrift() {
        tell("the cost of the plate is by places less the drift, in x by u and in y by v");
        // Two points 300 apart in x, 400 in y; the drift takes 100 or 200 away from the second one.
        int[][] known = {{0, 0, 500}, {100, 0, 447}, {0, 100, 424}, {100, 100, 360}, {-100, 0, 565}, {0, -100, 583}};
        for (int[] row : known) {
            ArcPlate plate = withPoints(100, 2000, 3000, 2300, 3400);
            plate.setPole(2000, 3000);
            plate.set(1, row[0]);
            plate.set(2, row[1]);
            due(row[2], plate.whole(4), "cost with the drift " + row[0] + ", " + row[1]);
            due(row[2], plate.trail(0, 2), "spread with it");
            due(row[2], plate.point(0, 1, 5), "radius of the second point");
            due(row[2], plate.costAt(2000, 3000), "costAt with it");
            due(row[2], plate.setPole(2000, 3000), "setPole with it");
        }
    }

    private static void polesAtTheirEnds() {
        tell("promises 7 and 19: the pole at the ends of its range");
        int[][] corners = {{-2000, -2000}, {6000, -2000}, {-2000, 6000}, {6000, 6000}};
        for (int[] corner : corners) {
            ArcPlate plate = withTrails(1);
            plate.addPoint(0, 0, 2000, 2000);
            plate.addPoint(0, 1, corner[0] < 0 ? 2600 : 1400, corner[1] < 0 ? 2800 : 1200);
            // 4000 and 4000 off the radius is 5656, 4600 and 4800 off it is 6648.
            due(992, plate.costAt(corner[0], corner[1]), "cost at a corner");
            due(1000, plate.whole(4), "cost of the plate still");
            due(2000, plate.whole(2), "x of the pole still");
            due(992, plate.setPole(corner[0], corner[1]), "cost with the pole there");
            due(corner[0], plate.whole(2), "x of the pole");
            due(corner[1], plate.whole(3), "y of the pole");
            due(992, plate.whole(4), "cost of the plate then");
        }
    }

    private static void expectedSweeps() {
        tell("the sweep that is expected is rate * (last frame - first frame)");
        ArcPlate plate = withTrails(1);
        plate.addPoint(0, 990, 2100, 2000);
        due(0, plate.trail(0, 4), "of one point");
        plate.addPoint(0, 1000, 2100, 2000);
        due(2500, plate.trail(0, 4), "of ten frames");
        plate.addPoint(0, 0, 2100, 2000);
        due(250000, plate.trail(0, 4), "of 1000 frames");
        int[] rates = {5000, -5000, 0, 1, -1};
        for (int rate : rates) {
            plate.set(0, rate);
            due(1000 * rate, plate.trail(0, 4), "with the rate " + rate);
            due(1000 * Math.abs(rate), plate.trail(0, 5), "misfit of no sweep with the rate " + rate);
        }
    }

    private static void misfits() {
        tell("the misfit is the difference of both sweeps, not negative");
        // Half a circle, 180000, in some frames of 250 each.
        due(0, around(720, 1, 1, -1, -1).trail(0, 5), "as expected");
        due(250, around(719, 1, 1, -1, -1).trail(0, 5), "more than expected");
        due(250, around(721, 1, 1, -1, -1).trail(0, 5), "less than expected");
        due(0, around(720, 1, 1).trail(0, 5), "of one point");
    }

    private static int good(int rate, int step, int radii, int angles, int... offsets) {
        ArcPlate plate = around(step, offsets);
        plate.set(0, rate);
        plate.set(3, radii);
        plate.set(4, angles);
        due(plate.trail(0, 6), plate.whole(5), "good trails of one");
        due(plate.trail(0, 6), plate.meanRate() == NONE ? 0 : 1, "whether it has a mean rate");
        return plate.trail(0, 6);
    }

    private static void goodTrails() {
        tell("a trail is good if it has at least 2 points");
        due(0, good(0, 1, 500, 180000), "no point");
        due(0, good(0, 1, 500, 180000, 100, 0), "one point");
        due(1, good(0, 1, 500, 180000, 100, 0, 100, 0), "two points");
        tell("a trail is good if its spread is at most the tolerance");
        due(1, good(0, 1, 0, 0, 100, 0, 100, 0), "0 and 0");
        due(0, good(0, 1, 0, 0, 100, 0, 101, 0), "1 and 0");
        due(1, good(0, 1, 5, 0, 100, 0, 105, 0), "5 and 5");
        due(0, good(0, 1, 5, 0, 100, 0, 106, 0), "6 and 5");
        due(1, good(0, 1, 500, 0, 100, 0, 600, 0), "500 and 500");
        due(0, good(0, 1, 500, 0, 100, 0, 601, 0), "501 and 500");
        tell("a trail is good if its misfit is at most the tolerance");
        due(1, good(250, 720, 0, 0, 1, 1, -1, -1), "0 and 0");
        due(0, good(1, 1, 0, 0, 100, 0, 100, 0), "1 and 0");
        due(1, good(1, 1, 0, 1, 100, 0, 100, 0), "1 and 1");
        due(1, good(1000, 1, 0, 1000, 100, 0, 100, 0), "1000 and 1000");
        due(0, good(1001, 1, 0, 1000, 100, 0, 100, 0), "1001 and 1000");
        due(0, good(-1001, 1, 0, 1000, 100, 0, 100, 0), "1001 and 1000, backwards");
        due(1, good(0, 1, 0, 180000, 1, 1, -1, -1), "180000 and 180000");
        due(0, good(-1, 1, 0, 180000, 1, 1, -1, -1), "180001 and 180000");
    }

    private static int gaps(int most, int... frames) {
        ArcPlate plate = withTrails(1);
        for (int frame : frames) {
            plate.addPoint(0, frame, 2000, 2000);
        }
        plate.set(6, most);
        due(plate.trail(0, 7), plate.whole(10), "gaps in all");
        return plate.trail(0, 7);
    }

    private static void gapsBeyondTheStep() {
        tell("a gap is a pair of points whose frames differ by more than the greatest step");
        due(0, gaps(1), "no point");
        due(0, gaps(1, 500), "one point");
        due(0, gaps(100, 0, 100), "100 and 100");
        due(1, gaps(100, 0, 101), "101 and 100");
        due(1, gaps(99, 0, 100), "100 and 99");
        due(0, gaps(1, 0, 1), "1 and 1");
        due(1, gaps(1, 0, 2), "2 and 1");
        due(0, gaps(1000, 0, 1000), "1000 and 1000");
        due(1, gaps(999, 0, 1000), "1000 and 999");
        due(0, gaps(500, 0, 500, 1000), "the last and the first point are no pair");
        due(1, gaps(499, 0, 501, 1000), "one of two pairs");
        due(2, gaps(10, 0, 11, 20, 40), "two of three pairs");
        due(11, gaps(1, 0, 2, 4, 6, 8, 10, 12, 14, 16, 18, 20, 22), "all pairs of 12 points");
        ArcPlate full = fullPlate();
        full.set(6, 79);
        due(132, full.whole(10), "gaps of 12 trails with 12 points each");
        full.set(6, 80);
        due(0, full.whole(10), "none of them by a step of 80");
    }

    private static void meanRates() {
        tell("promise 20: floor(sum of the sweeps / sum of the frames) of the good trails");
        due(NONE, new ArcPlate().meanRate(), "without trails");
        due(NONE, withTrails(12).meanRate(), "of trails without points");
        due(NONE, around(1, 100, 0, 106, 0).meanRate(), "of a trail whose spread is too great");
        // The angles are 11311 and 11312.
        ArcPlate up = around(2, 20, 4, 10, 2);
        up.set(3, 10);
        due(0, up.meanRate(), "1 / 2");
        ArcPlate down = around(2, 10, 2, 20, 4);
        down.set(3, 10);
        due(-1, down.meanRate(), "-1 / 2");
        ArcPlate still = around(3, 100, 0, 100, 0);
        due(0, still.meanRate(), "0 / 3");
        ArcPlate back = around(3, -1, -1, 0, -1, 1, -1);
        back.set(4, 180000);
        // From 225000 to 315000.
        due(15000, back.meanRate(), "90000 / 6");
    }

    private static void meanRateOfAll() {
        tell("promise 20: all 12 trails with their greatest sweeps count");
        ArcPlate plate = withTrails(12);
        plate.set(0, 5000);
        for (int t = 0; t < 12; t++) {
            for (int p = 0; p < 12; p++) {
                int side = p % 2 == 0 ? 1 : -1;
                plate.addPoint(t, 36 * p, 2000 + side, 2000 + side);
            }
        }
        due(11 * 180000, plate.trail(11, 3), "sweep");
        due(0, plate.trail(11, 5), "misfit");
        due(12, plate.whole(5), "good trails");
        due(5000, plate.meanRate(), "12 * 1980000 / (12 * 396)");
        plate.removePoint(0, 11);
        due(5000, plate.meanRate(), "with one half circle in 36 frames less");
        plate.set(4, 0);
        plate.removePoint(0, 5);
        // Trail 0 turns by 0 there instead of 360000, and is not good any more.
        due(11, plate.whole(5), "good trails then");
        due(5000, plate.meanRate(), "of the good ones");
    }

    private static void bestDrifts() {
        tell("promise 23: u and v differ by at most the number, are in their range, and are the lowest of several");
        int[] present = {-100, -99, -96, -95, -94, 0, 95, 99, 100};
        ArcPlate plate = new ArcPlate();
        for (int u : present) {
            for (int most : new int[] {0, 1, 5}) {
                plate.set(1, u);
                plate.set(2, 0);
                due(1000 * Math.max(0, u + 100 - most) + 100 - most, plate.bestDrift(most), "u " + u + " by " + most);
                plate.set(1, 0);
                plate.set(2, u);
                due(1000 * (100 - most) + Math.max(0, u + 100 - most), plate.bestDrift(most), "v " + u + " by " + most);
            }
        }
        due(0, plate.setting(1), "u stays");
        due(100, plate.setting(2), "v stays");
    }

    private static void bestDriftsBesideTheDiagonal() {
        tell("promise 23: the cost is that with the pole, in x by u and in y by v");
        // The first point is at the pole; by 3 and 4 the second one is there, too.
        ArcPlate plate = withPoints(100, 2500, 1000, 2503, 1004);
        plate.setPole(2500, 1000);
        due(103104, plate.bestDrift(5), "both in reach");
        due(103104, plate.bestDrift(4), "just in reach");
        // One place off in x and in y the root is 1, as it is with one of them.
        due(102103, plate.bestDrift(3), "v beyond it");
        plate.set(1, 8);
        due(103104, plate.bestDrift(5), "u from 8, just in reach");
        plate.set(1, 9);
        due(104103, plate.bestDrift(5), "u from 9, beyond it");
        plate.set(1, 3);
        plate.set(2, -1);
        due(103104, plate.bestDrift(5), "v from -1, just in reach");
        plate.set(2, 9);
        due(103104, plate.bestDrift(5), "v from 9, just in reach");
        plate.set(2, 10);
        due(102105, plate.bestDrift(5), "v from 10, beyond it");
    }

    private static void bestDriftsUpwards() {
        tell("promise 23: up to 100 at the most, whatever would fit better");
        int[][] known = {{0, 5, 5}, {0, 4, 4}, {0, 0, 0}, {94, 5, 99}, {95, 5, 100}, {96, 5, 100}, {99, 1, 100},
            {100, 5, 100}, {100, 0, 100}};
        for (int[] row : known) {
            // The points would stand still with a drift of 150; v makes less of a difference than a root shows.
            ArcPlate plate = withPoints(100, 3000, 2000, 3150, 2000);
            plate.set(1, row[0]);
            due(1000 * (row[2] + 100) + 100 - row[1], plate.bestDrift(row[1]), "u from " + row[0] + " by " + row[1]);
            ArcPlate upright = withPoints(100, 2000, 3000, 2000, 3150);
            upright.set(2, row[0]);
            due(1000 * (100 - row[1]) + row[2] + 100, upright.bestDrift(row[1]), "v from " + row[0] + " by " + row[1]);
        }
    }

    private static void limits() {
        atMostTwelveTrails();
        trailsHaveNoPointsAtFirst();
        removedTrails();
        atMostTwelvePoints();
        pointsByTheirFrames();
        noFrameTwice();
        removedPoints();
    }

    private static void measures() {
        placesAreFloored();
        placesMayLieOffThePlate();
        rootsBesideSquares();
        meanRadii();
        spreads();
        costOfThePlate();
        costsWithADrift();
        polesAtTheirEnds();
        expectedSweeps();
        misfits();
        goodTrails();
        gapsBeyondTheStep();
    }

    public static void main(String[] args) {
        limits();
        measures();
        meanRates();
        meanRateOfAll();
        bestDrifts();
        bestDriftsBesideTheDiagonal();
        bestDriftsUpwards();
        end();
    }
}
