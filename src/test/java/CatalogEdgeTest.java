/**
 * The edges of the catalog: how many stars there are and how they are numbered, radii and angles on the plate, costs
 * with turns about 0 and half a circle, matches at the tolerance and of equal costs, missing stars at the limit, the
 * mean scale and the best zero.
 */
public final class CatalogEdgeTest extends Checks {
    private static void atMostTwelveStars() {
        tell("at most 12 stars, numbered from 0");
        ArcPlate plate = new ArcPlate();
        for (int s = 0; s < 12; s++) {
            due(s, plate.addStar(s + 1, s, s % 10), "number of a new star");
        }
        badState(plate, "a 13th star", () -> plate.addStar(1, 0, 0));
        due(12, plate.whole(1), "stars after a 13th was refused");
        for (int round = 0; round < 2; round++) {
            due(11, plate.removeStar(11 * round), "stars left of 12");
            due(11, plate.addStar(50, 60, 7), "number of the 12th star again");
            badState(plate, "a 13th star again", () -> plate.addStar(1, 0, 0));
        }
        for (int left = 11; left >= 0; left--) {
            due(left, plate.removeStar(left / 2), "stars left");
        }
        noSuch(plate, "removing one more", () -> plate.removeStar(0));
        due(0, plate.addStar(8, 9, 1), "number of the first star again");
        dueStar(plate, 0, 8, 9, 1, 8, NONE, NONE, 0);
    }

    private static void removedStars() {
        tell("promise 10: the numbers of those behind it decrease by 1, those before it stay");
        for (int gone : new int[] {0, 1, 6, 10, 11}) {
            ArcPlate plate = new ArcPlate();
            for (int s = 0; s < 12; s++) {
                plate.addStar(1000 + s, 2000 + s, s % 10);
            }
            due(11, plate.removeStar(gone), "stars left");
            for (int s = 0; s < 11; s++) {
                int was = s < gone ? s : s + 1;
                dueStar(plate, s, 1000 + was, 2000 + was, was % 10);
            }
            noSuch(plate, "star 11 then", () -> plate.star(11, 0));
            plate.undo();
            dueStar(plate, gone, 1000 + gone, 2000 + gone, gone % 10);
            dueStar(plate, 11, 1011, 2011, 1);
        }
    }

    private static void starsAtTheirEnds() {
        tell("radius 1 to 100000, angle 0 to 359999, brightness 0 to 9");
        ArcPlate plate = new ArcPlate();
        plate.addStar(1, 0, 0);
        plate.addStar(100000, 359999, 9);
        dueStar(plate, 0, 1, 0, 0, 1, NONE, NONE, 0);
        dueStar(plate, 1, 100000, 359999, 9, 100000, NONE, NONE, 1);
    }

    private static void radiiOnThePlate() {
        tell("the radius of a star on the plate is floor(R * scale / 1000)");
        int[][] known = {{1, 1, 0}, {1, 999, 0}, {1, 1000, 1}, {1, 1999, 1}, {1, 2000, 2}, {999, 1, 0}, {1000, 1, 1},
            {1001, 1, 1}, {333, 3, 0}, {334, 3, 1}, {1, 100000, 100}, {100000, 1, 100}, {99999, 1, 99},
            // R * scale about 2^31 and 2^32.
            {46341, 46341, 2147488}, {65536, 32768, 2147483}, {65536, 65536, 4294967}, {100000, 100000, 10000000},
            {100000, 99999, 9999900}, {99999, 99999, 9999800}};
        for (int[] row : known) {
            ArcPlate plate = new ArcPlate();
            plate.addStar(row[0], 0, 0);
            plate.set(7, row[1]);
            due(row[2], plate.star(0, 3), "radius " + row[0] + " by the scale " + row[1]);
            due(row[0], plate.star(0, 0), "the radius R stays");
        }
    }

    private static void anglesInFrames() {
        tell("the angle of a star in the frame t is (A + zero + rate * t) modulo 360000");
        // Angle, zero, rate, frame, due.
        int[][] known = {{0, 0, 0, 0, 0}, {359999, 0, 0, 0, 359999}, {359999, 1, 0, 0, 0}, {359999, 359999, 0, 0, 359998},
            {0, 359999, 1, 1, 0}, {0, 359999, 1, 2, 1}, {0, 0, -1, 1, 359999}, {1, 0, -1, 1, 0}, {0, 1, -1, 1, 0},
            {0, 0, -1, 0, 0}, {0, 0, -360, 1000, 0}, {0, 0, 360, 1000, 0}, {1, 0, -360, 1000, 1}, {0, 0, 720, 1000, 0},
            {0, 0, 719, 1000, 359000}, {0, 0, 5000, 1000, 320000}, {0, 0, -5000, 1000, 40000},
            {359999, 359999, 5000, 1000, 319998}, {359999, 359999, -5000, 1000, 39998}, {1, 2, 250, 999, 249753}};
        for (int[] row : known) {
            ArcPlate plate = new ArcPlate();
            plate.addStar(1, row[0], 0);
            plate.set(8, row[1]);
            plate.set(0, row[2]);
            due(row[4], plate.starAngle(0, row[3]), "angle of " + row[0] + ", " + row[1] + ", " + row[2] + ", " + row[3]);
            due(row[0], plate.star(0, 1), "the angle A stays");
        }
    }

    private static void dueCosts(ArcPlate plate, int radius, int[][] known) {
        for (int[] row : known) {
            plate.addStar(radius, row[0], 0);
            due(row[1], plate.cost(0, 0), "cost of a star at " + row[0]);
            plate.removeStar(0);
        }
    }

    private static void costsOfTurns() {
        tell("floor(|turn| * radius / 57296), with turns about 0 and 180000");
        // 57296 is 16 * 3581, so that a trail of this radius costs 1 for a turn of 16.
        dueCosts(around(1, 3581, 0), 3581, new int[][] {{0, 0}, {1, 0}, {15, 0}, {16, 1}, {31, 1}, {32, 2},
            {179984, 11249}, {179999, 11249}, {180000, 11250}, {180001, 11249}, {180016, 11249}, {180017, 11248},
            {359968, 2}, {359969, 1}, {359984, 1}, {359985, 0}, {359999, 0}});
        dueCosts(around(1, -3581, 0), 3581, new int[][] {{180000, 0}, {180015, 0}, {180016, 1}, {179985, 0}, {179984, 1},
            {0, 11250}, {1, 11249}, {16, 11249}, {17, 11248}, {359999, 11249}, {359984, 11249}, {359983, 11248}});
        // The trail is at 359987, so a turn of 15 goes beyond 360000 and costs 1: 15 * 3886 / 57296.
        dueCosts(around(1, 3886, -1), 3886, new int[][] {{359987, 0}, {1, 0}, {2, 1}, {359973, 0}, {359972, 1}});
        // And here at 13.
        dueCosts(around(1, 3886, 1), 3886, new int[][] {{13, 0}, {27, 0}, {28, 1}, {359999, 0}, {359998, 1}});
    }

    private static void costsOfRadii() {
        tell("the difference of the radii on the plate, not negative");
        ArcPlate plate = around(1, 100, 0);
        int[][] known = {{100, 0}, {101, 1}, {99, 1}, {1, 99}, {100000, 99900}};
        for (int[] row : known) {
            plate.addStar(row[0], 0, 0);
            due(row[1], plate.cost(0, 0), "cost of a radius of " + row[0]);
            plate.removeStar(0);
        }
        ArcPlate centre = around(1, 0, 0);
        dueCosts(centre, 7, new int[][] {{0, 7}, {90000, 7}, {180000, 7}});
        centre.addStar(100000, 180000, 0);
        centre.set(7, 100000);
        due(10000000, centre.cost(0, 0), "the greatest star with a trail at the pole");
        centre.set(7, 1);
        due(100, centre.cost(0, 0), "the greatest star by the least scale");
    }

    private static void costsByTheFirstPoint() {
        tell("the angle and the frame are those of the first point, the radius is that of the trail");
        ArcPlate plate = withTrails(1);
        plate.setPole(0, 2000);
        plate.addPoint(0, 1000, 3582, 2000);
        plate.addStar(3581, 110000, 0);
        due(1, plate.cost(0, 0), "in frame 1000, where the star is at 360000");
        plate.addPoint(0, 999, 3580, 2000);
        due(15, plate.cost(0, 0), "in frame 999, where the star is 250 before it: floor(250 / 16)");
        plate.addPoint(0, 0, 3581, 2000);
        due(110000 / 16, plate.cost(0, 0), "in frame 0, where the star is at 110000");
    }

    private static void matchesAtTheTolerance() {
        tell("pairs whose cost is at most the tolerance");
        int[][] known = {{0, 100, 1}, {0, 101, 0}, {0, 99, 0}, {1, 101, 1}, {50, 150, 1}, {50, 151, 0}, {50, 50, 1},
            {50, 49, 0}, {4999, 5100, 0}, {5000, 5100, 1}, {5000, 5101, 0}};
        for (int[] row : known) {
            ArcPlate plate = around(1, 100, 0);
            plate.set(5, row[0]);
            plate.addStar(row[1], 0, 9);
            boolean match = row[2] == 1;
            int cost = Math.abs(row[1] - 100);
            due(match ? 0 : NONE, plate.trail(0, 8), "star matched at " + cost + " of " + row[0]);
            due(match ? 0 : NONE, plate.star(0, 4), "trail matched at " + cost + " of " + row[0]);
            due(match ? cost : NONE, plate.star(0, 5), "cost of the match at " + cost + " of " + row[0]);
            due(match ? 0 : 1, plate.star(0, 6), "missing at " + cost + " of " + row[0]);
            due(match ? 1 : 0, plate.whole(6), "matches at " + cost + " of " + row[0]);
            due(match ? cost : 0, plate.whole(7), "sum of costs at " + cost + " of " + row[0]);
            due(match ? 0 : 1, plate.whole(8), "missing stars at " + cost + " of " + row[0]);
        }
    }

    /** Trails with one point each, at the angle 0 and the radii given. */
    private static ArcPlate atRadii(int... radii) {
        ArcPlate plate = withTrails(radii.length);
        plate.set(0, 0);
        for (int t = 0; t < radii.length; t++) {
            plate.addPoint(t, 0, 2000 + radii[t], 2000);
        }
        return plate;
    }

    private static ArcPlate withStars(ArcPlate plate, int... radii) {
        for (int radius : radii) {
            plate.addStar(radius, 0, 3);
        }
        return plate;
    }

    private static void dueMatches(ArcPlate plate, int... starOf) {
        int matches = 0;
        for (int t = 0; t < starOf.length; t++) {
            due(starOf[t], plate.trail(t, 8), "star of trail " + t);
            if (starOf[t] != NONE) {
                due(t, plate.star(starOf[t], 4), "trail of star " + starOf[t]);
                due(plate.cost(t, starOf[t]), plate.star(starOf[t], 5), "cost of the match of trail " + t);
                matches++;
            }
        }
        due(matches, plate.whole(6), "matches");
        due(plate.whole(1) - matches, plate.whole(8), "missing stars");
    }

    private static void matchesOfEqualCosts() {
        tell("of several with the least cost the lowest trail, of several of these the lowest star");
        dueMatches(withStars(atRadii(100, 100), 100), 0, NONE);
        dueMatches(withStars(atRadii(100), 100, 100), 0);
        dueMatches(withStars(atRadii(100, 100), 100, 100), 0, 1);
        dueMatches(withStars(atRadii(100), 110, 90), 0);
        dueMatches(withStars(atRadii(90, 110), 100), 0, NONE);
        dueMatches(withStars(atRadii(100, 100, 100), 101, 100), 1, 0, NONE);
        dueMatches(withStars(atRadii(101, 100, 100), 100, 100), NONE, 0, 1);
        int[] same = new int[12];
        java.util.Arrays.fill(same, 100);
        dueMatches(withStars(atRadii(same), same), 0, 1, 2, 3, 4, 5, 6, 7, 8, 9, 10, 11);
        dueMatches(withStars(atRadii(100), same), 0);
        dueMatches(withStars(atRadii(same), 100), 0, NONE, NONE, NONE, NONE, NONE, NONE, NONE, NONE, NONE, NONE, NONE);
    }

    private static void matchesOneByOne() {
        tell("the pair with the least cost is a match, and all pairs with its trail or its star are left out");
        // Trail 0 is 2 from star 0, trail 1 is 1 from it: what is left for trail 0 is star 1, or none.
        dueMatches(withStars(atRadii(102, 101), 100), NONE, 0);
        dueMatches(withStars(atRadii(102, 101), 100, 140), 1, 0);
        dueMatches(withStars(atRadii(102, 101), 100, 152), 1, 0);
        dueMatches(withStars(atRadii(102, 101), 100, 153), NONE, 0);
        // Both trails could be matched with costs of 50 and 41, but the nearest two meet first.
        dueMatches(withStars(atRadii(110, 160), 119, 60), 0, NONE);
        // The last of twelve is the best.
        dueMatches(withStars(atRadii(112, 111, 110, 109, 108, 107, 106, 105, 104, 103, 102, 101), 100),
            NONE, NONE, NONE, NONE, NONE, NONE, NONE, NONE, NONE, NONE, NONE, 0);
        dueMatches(withStars(atRadii(100), 112, 111, 110, 109, 108, 107, 106, 105, 104, 103, 102, 101), 11);
        dueMatches(withStars(atRadii(10, 200, 400, 600), 600, 400, 200, 10), 3, 2, 1, 0);
    }

    private static void matchesOfEmptyThings() {
        tell("trails without points are in no pair");
        dueMatches(new ArcPlate());
        dueMatches(withTrails(12), NONE, NONE, NONE, NONE, NONE, NONE, NONE, NONE, NONE, NONE, NONE, NONE);
        dueMatches(withStars(withTrails(2), 1, 1), NONE, NONE);
        ArcPlate plate = withStars(withTrails(3), 100);
        plate.addPoint(1, 0, 2100, 2000);
        dueMatches(plate, NONE, 0, NONE);
        plate.removePoint(1, 0);
        dueMatches(plate, NONE, NONE, NONE);
        plate.addPoint(2, 0, 2100, 2000);
        plate.removeTrail(0);
        dueMatches(plate, NONE, 0);
    }

    private static void missingAtTheLimit() {
        tell("a star is missing if it is in no match, and its brightness is at least the limit");
        ArcPlate plate = new ArcPlate();
        for (int light = 0; light <= 9; light++) {
            plate.addStar(100, 0, light);
        }
        for (int limit = 0; limit <= 9; limit++) {
            plate.set(9, limit);
            due(10 - limit, plate.whole(8), "missing stars by the limit " + limit);
            due(limit, plate.missing(0), "the first by the limit " + limit);
            due(9, plate.missing(9 - limit), "the last by the limit " + limit);
            due(NONE, plate.missing(10 - limit), "one more by the limit " + limit);
            due(NONE, plate.missing(Integer.MAX_VALUE), "the farthest by the limit " + limit);
            due(1, plate.star(limit, 6), "star at the limit " + limit);
            due(0, limit > 0 ? plate.star(limit - 1, 6) : 0, "star below the limit " + limit);
        }
        plate.set(9, 3);
        plate.addTrail();
        plate.addPoint(0, 0, 2100, 2000);
        due(0, plate.trail(0, 8), "the trail takes the first star");
        due(3, plate.missing(0), "the first then");
        plate.removeStar(0);
        plate.removeStar(0);
        plate.removeStar(0);
        due(0, plate.star(0, 6), "the bright star that is matched now");
        due(1, plate.missing(0), "the first behind it");
        due(6, plate.whole(8), "missing stars then");
    }

    private static void missingOfTwelve() {
        tell("promise 16: 0 for the one with the lowest number, and so on");
        ArcPlate plate = new ArcPlate();
        due(NONE, plate.missing(0), "of an empty catalog");
        for (int s = 0; s < 12; s++) {
            plate.addStar(100, 0, 9);
        }
        for (int s = 0; s < 12; s++) {
            due(s, plate.missing(s), "missing star " + s);
        }
        due(NONE, plate.missing(12), "missing star 12");
        badValue(plate, "missing star -1", () -> plate.missing(-1));
    }

    private static void meanScales() {
        tell("promise 21: floor(1000 * sum of the radii / sum of the radii R) of the matches");
        due(NONE, new ArcPlate().meanScale(), "of a new plate");
        due(NONE, atRadii(100).meanScale(), "without stars");
        due(NONE, withStars(withTrails(1), 1).meanScale(), "of trails without points");
        due(NONE, withStars(atRadii(100), 151).meanScale(), "of a pair beyond the tolerance");
        due(1000, withStars(atRadii(100), 100).meanScale(), "100 / 100");
        due(666, withStars(atRadii(100), 150).meanScale(), "100 / 150");
        due(1886, withStars(atRadii(100), 53).meanScale(), "100 / 53");
        due(0, withStars(atRadii(0), 1).meanScale(), "0 / 1");
        due(987, withStars(atRadii(100, 300), 103, 302, 900).meanScale(), "400 / 405, without the third star");
        due(909, withStars(atRadii(100), 900, 110).meanScale(), "100 / 110, of the second star alone");
        due(1100, withStars(atRadii(900, 110), 100).meanScale(), "110 / 100, of the second trail alone");
        ArcPlate small = withStars(atRadii(100), 100000);
        small.set(7, 1);
        due(1, small.meanScale(), "100 / 100000");
        ArcPlate great = withStars(atRadii(100), 1);
        great.set(7, 100000);
        due(100000, great.meanScale(), "100 / 1");
    }

    private static void meanScaleOfAll() {
        tell("promise 21: all 12 trails at their greatest radii count");
        ArcPlate plate = withTrails(12);
        plate.set(0, 0);
        plate.set(1, -100);
        plate.set(2, -100);
        plate.setPole(-2000, -2000);
        for (int t = 0; t < 12; t++) {
            plate.addPoint(t, 1000, 4000, 4000);
            plate.addStar(9900, 45000, 9);
        }
        due(12, plate.whole(6), "matches");
        due(12, plate.whole(7), "sum of their costs");
        due(999, plate.meanScale(), "12 * 9899 / (12 * 9900)");
    }

    private static int zeroOf(int angle, int rate, int frame) {
        ArcPlate plate = withTrails(1);
        plate.addPoint(0, frame, 2100, 2000);
        plate.addStar(100, angle, 0);
        plate.set(0, rate);
        // The present zero makes no difference.
        plate.set(8, 123456);
        return plate.bestZero();
    }

    private static void zerosAboutTheCircle() {
        tell("promise 22: the zero is 0 to 359999");
        due(0, zeroOf(0, 250, 0), "of equal angles");
        due(359999, zeroOf(1, 250, 0), "of a star 1 ahead");
        due(1, zeroOf(359999, 250, 0), "of a star 1 behind");
        due(180000, zeroOf(180000, 250, 0), "of a star on the other side");
        due(0, zeroOf(0, 360, 1000), "of a whole circle in between");
        due(0, zeroOf(0, -360, 1000), "of a whole circle backwards");
        due(40000, zeroOf(0, 5000, 1000), "with the greatest turning");
        due(320000, zeroOf(0, -5000, 1000), "with the greatest turning backwards");
        due(40001, zeroOf(359999, 5000, 1000), "with the greatest turning and angle");
        due(359750, zeroOf(0, 250, 1), "of one frame");
    }

    private static void zerosWithoutPairs() {
        tell("promise 22: NONE if there are no such pairs");
        due(NONE, new ArcPlate().bestZero(), "of a new plate");
        due(NONE, atRadii(100, 200).bestZero(), "of an empty catalog");
        due(NONE, withStars(new ArcPlate(), 100).bestZero(), "without trails");
        due(NONE, withStars(withTrails(12), 100).bestZero(), "of trails without points");
        ArcPlate plate = withStars(withTrails(3), 100);
        plate.addPoint(2, 4, 2100, 2000);
        due(359000, plate.bestZero(), "of the only trail with points");
        plate.removePoint(2, 0);
        due(NONE, plate.bestZero(), "when its point is gone");
    }

    private static void zerosOfEqualMatches() {
        tell("promise 22: the most matches, then the least sum of costs, then the lowest zero");
        // No star is near any trail: all zeros bring no match, and the lowest of them is due.
        ArcPlate far = atRadii(100);
        int[] angles = {10, 359990, 350, 200000};
        int[] lowest = {359990, 10, 10, 10};
        for (int s = 0; s < angles.length; s++) {
            far.addStar(90000, angles[s], 0);
            due(lowest[s], far.bestZero(), "the lowest zero of " + (s + 1));
        }
        // One match with each star: by the costs 3, 2 and 2, and the zeros 10000, 30000 and 20000.
        ArcPlate near = atRadii(100);
        near.set(5, 3);
        near.addStar(103, 350000, 0);
        due(10000, near.bestZero(), "the only one");
        near.addStar(102, 330000, 0);
        due(30000, near.bestZero(), "the one with the lesser cost");
        near.addStar(98, 340000, 0);
        due(20000, near.bestZero(), "the lower one of two with the lesser cost");
        near.set(5, 2);
        due(20000, near.bestZero(), "with a tolerance of 2");
        near.set(5, 1);
        due(10000, near.bestZero(), "the lowest one without matches");
        // The other way round: the least cost comes first, then a greater one with a lower zero, then with a higher one.
        ArcPlate falling = atRadii(100);
        falling.addStar(102, 330000, 0);
        falling.addStar(103, 350000, 0);
        falling.addStar(104, 310000, 0);
        due(30000, falling.bestZero(), "the least cost before greater ones");
        // Two matches rather than one without a cost.
        ArcPlate two = atRadii(100, 300);
        two.addStar(100, 360000 - 50, 0);
        two.addStar(130, 200000, 0);
        two.addStar(330, 200000, 0);
        due(160000, two.bestZero(), "two matches, with a sum of 60");
        due(0, two.setting(8), "the zero stays as it was");
    }

    private static void zerosByTheTolerance() {
        tell("promise 22: the matches are those by the tolerance");
        ArcPlate plate = atRadii(100, 300);
        plate.addStar(150, 200000, 0);
        plate.addStar(350, 200000, 0);
        plate.addStar(100, 350000, 0);
        due(160000, plate.bestZero(), "two matches at the tolerance");
        plate.set(5, 49);
        due(10000, plate.bestZero(), "one match, as the two are beyond it");
    }

    private static void fullCatalogs() {
        tell("12 trails and 12 stars, each with its own");
        ArcPlate plate = withTrails(12);
        plate.set(0, 0);
        for (int n = 0; n < 12; n++) {
            plate.addPoint(n, n, 2000 + 100 * (n + 1), 2000);
            plate.addStar(100 * (12 - n), 359000, 9);
        }
        due(50, plate.set(5, 0), "the tolerance at first");
        due(0, plate.whole(6), "matches of stars that are 1000 behind");
        due(1000, plate.bestZero(), "the zero that brings them all");
        plate.set(8, 1000);
        dueMatches(plate, 11, 10, 9, 8, 7, 6, 5, 4, 3, 2, 1, 0);
        due(1000, plate.meanScale(), "their scale");
        due(NONE, plate.missing(0), "none is missing");
    }

    private static void stars() {
        atMostTwelveStars();
        removedStars();
        starsAtTheirEnds();
        radiiOnThePlate();
        anglesInFrames();
        costsOfTurns();
        costsOfRadii();
        costsByTheFirstPoint();
    }

    private static void matches() {
        matchesAtTheTolerance();
        matchesOfEqualCosts();
        matchesOneByOne();
        matchesOfEmptyThings();
        missingAtTheLimit();
        missingOfTwelve();
        fullCatalogs();
    }

    public static void main(String[] args) {
        stars();
        matches();
        meanScales();
        meanScaleOfAll();
        zerosAboutTheCircle();
        zerosWithoutPairs();
        zerosOfEqualMatches();
        zerosByTheTolerance();
        end();
    }
}
