/**
 * Angles about 0 and 360000, beside the axes and by each step of turning; turns of half a circle and next to it, and
 * sweeps of them. The angles were worked out from the document's steps by a script that is no part of the program.
 */
public final class AngleEdgeTest extends Checks {
    private static int angle(int dx, int dy) {
        return around(1, dx, dy).point(0, 0, 6);
    }

    private static void dueAngles(int[][] known) {
        for (int[] row : known) {
            due(row[2], angle(row[0], row[1]), "angle of " + row[0] + ", " + row[1]);
        }
    }

    private static void anglesAtThePole() {
        tell("if both are 0, the angle is 0");
        dueAngles(new int[][] {{0, 0, 0}});
        ArcPlate plate = around(1, 0, 0, -1, 0, 0, 0);
        due(0, plate.point(0, 2, 6), "angle of another point at the pole");
        due(360000, plate.trail(0, 3), "sweep from 0 to 180000 and on to 0");
    }

    private static void anglesAboutZero() {
        tell("the angle is a modulo 360000, 0 to 359999");
        dueAngles(new int[][] {{1, 0, 0}, {4000, 0, 0}, {6000, 0, 0}, {292, 1, 195}, {292, -1, 359805}, {3886, 1, 13},
            {3886, -1, 359987}, {5100, 1, 9}, {5100, -1, 359991}, {6000, -6000, 315000}, {1, -1, 315000}});
    }

    private static void anglesAboutHalfACircle() {
        tell("if X is less than 0, both change their signs, and a becomes 180000");
        dueAngles(new int[][] {{-1, 0, 180000}, {-6000, 0, 180000}, {-292, 1, 179805}, {-292, -1, 180195},
            {-3886, 1, 179987}, {-3886, -1, 180013}, {-5100, 1, 179991}, {-5100, -1, 180009}, {-1, 1, 135000},
            {-1, -1, 225000}, {-6000, 6000, 135000}, {-6000, -6000, 225000}});
    }

    private static void anglesUprightFromThePole() {
        tell("X of 0 is not less than 0");
        dueAngles(new int[][] {{0, 1, 90043}, {0, -1, 269957}, {0, 4, 90003}, {0, -4, 269997}, {0, 11, 89996},
            {0, -11, 270004}, {0, 15, 90005}, {0, -15, 269995}, {0, 16, 90001}, {0, -16, 269999}, {0, 28, 89999},
            {0, -28, 270001}, {0, 6000, 90001}, {0, -6000, 269999}});
        // One beside the axis they are turned by the half circle, or not.
        dueAngles(new int[][] {{1, 4000, 89987}, {-1, 4000, 90013}, {1, -4000, 270013}, {-1, -4000, 269987}});
    }

    private static void anglesWhereYBecomesZero() {
        tell("if Y is 0, nothing changes");
        dueAngles(new int[][] {{1, 1, 45000}, {3000, 3000, 45000}, {1, -1, 315000}, {2, 1, 26545}, {20, 4, 11311},
            {10, 2, 11312}, {18, 9, 26565}, {6, 3, 26566}, {3, 6, 63434}, {9, 18, 63435}});
    }

    private static void anglesAllAround() {
        tell("for k from 0 to 15, with T(k) and floors towards minus infinity");
        dueAngles(new int[][] {{1000, 577, 29983}, {1000, -577, 330017}, {-1000, 577, 150017}, {-1000, -577, 209983},
            {577, 1000, 60017}, {-577, 1000, 119983}, {577, -1000, 299983}, {-577, -1000, 240017},
            {1000, 123, 7013}, {1000, -123, 352987}, {7, 3, 23199}, {7, -3, 336801}, {-7, 3, 156801}, {-7, -3, 203199},
            {5999, 6000, 45005}, {6000, 5999, 44995}, {1, 2, 63455}, {2, -1, 333455}});
    }

    private static int sweep(int... offsets) {
        return around(1, offsets).trail(0, 3);
    }

    private static void turnsOfHalfACircle() {
        tell("a turn is above -180000 and at most 180000");
        due(180000, sweep(1, 1, -1, -1), "turn of 180000");
        due(180000, sweep(-1, -1, 1, 1), "turn of -180000");
        due(180000, sweep(1, 0, -1, 0), "turn from 0 to 180000");
        due(180000, sweep(-1, 0, 1, 0), "turn from 180000 to 0");
        due(-179999, sweep(0, 11, 0, -4), "turn of 180001");
        due(179999, sweep(0, -4, 0, 11), "turn of -180001");
        due(179999, sweep(0, 11, 0, -15), "turn of 179999");
        due(-179999, sweep(0, -15, 0, 11), "turn of -179999");
        due(-179998, sweep(0, 28, 0, -28), "turn of 180002");
        due(179998, sweep(0, -28, 0, 28), "turn of -180002");
    }

    private static void turnsAcrossZero() {
        tell("360000 is added or taken away");
        due(-390, sweep(292, 1, 292, -1), "turn from 195 to 359805");
        due(390, sweep(292, -1, 292, 1), "turn from 359805 to 195");
        due(-195, sweep(292, 0, 292, -1), "turn from 0 to 359805");
        due(195, sweep(292, -1, 292, 0), "turn from 359805 to 0");
        due(-26, sweep(3886, 1, 3886, -1), "turn from 13 to 359987");
        due(26, sweep(3886, -1, 3886, 1), "turn from 359987 to 13");
        due(-90000, sweep(1, 1, 1, -1), "turn from 45000 to 315000");
        due(90000, sweep(1, -1, 1, 1), "turn from 315000 to 45000");
        due(0, sweep(1, -1, 5, -5), "turn of 0");
        due(1, sweep(20, 4, 10, 2), "turn of 1");
        due(-1, sweep(10, 2, 20, 4), "turn of -1");
    }

    private static void sweeps() {
        tell("the sweep is the sum of the turns from each point to the next one");
        due(NONE, sweep(), "without points");
        due(0, sweep(5, 5), "of one point");
        int[] halves = new int[24];
        for (int p = 0; p < 12; p++) {
            halves[2 * p] = p % 2 == 0 ? 1 : -1;
            halves[2 * p + 1] = halves[2 * p];
        }
        due(11 * 180000, sweep(halves), "of eleven half circles");
        due(0, sweep(0, 11, 0, -4, 0, 11), "of -179999 and 179999");
        due(360000, sweep(1, 1, -1, 1, -1, -1, 1, -1, 1, 1), "of four quarters");
        due(-360000, sweep(1, 1, 1, -1, -1, -1, -1, 1, 1, 1), "of four quarters backwards");
        // By frames, not by the order in which they come.
        ArcPlate plate = withTrails(1);
        plate.addPoint(0, 20, 1999, 2001);
        plate.addPoint(0, 10, 2001, 2001);
        due(90000, plate.trail(0, 3), "from the earlier point to the later one");
    }

    private static void anglesMoveWithThePoleAndTheDrift() {
        tell("angles are seen from the pole, with places less the drift");
        ArcPlate plate = withTrails(1);
        plate.addPoint(0, 100, 2001, 2001);
        due(45000, plate.point(0, 0, 6), "from below, on the left");
        plate.setPole(2002, 2002);
        due(225000, plate.point(0, 0, 6), "from above, on the right");
        plate.set(1, -2);
        due(315000, plate.point(0, 0, 6), "2 farther on the right");
        plate.set(2, -2);
        due(45000, plate.point(0, 0, 6), "2 farther above, too");
        plate.set(1, -1);
        plate.set(2, -1);
        due(0, plate.point(0, 0, 6), "at the pole");
    }

    public static void main(String[] args) {
        anglesAtThePole();
        anglesAboutZero();
        anglesAboutHalfACircle();
        anglesUprightFromThePole();
        anglesWhereYBecomesZero();
        anglesAllAround();
        turnsOfHalfACircle();
        turnsAcrossZero();
        sweeps();
        anglesMoveWithThePoleAndTheDrift();
        end();
    }
}
