/**
 * The edges of the search: its order among places of equal cost, what is less than the cost of the pole, the halving
 * of the step, and the range of the pole. Where a search ends was worked out by a script that is no part of the program.
 */
public final class SearchEdgeTest extends Checks {
    // The 8 places in the order of the document: ascending j, and for each j ascending i.
    private static final int[] I = {-1, 0, 1, -1, 1, -1, 0, 1};
    private static final int[] J = {-1, -1, -1, 0, 0, 1, 1, 1};

    // First place, second place, two points, step: for each two of the 8 places a plate on which just they have the
    // least cost, and from the first of which the search finds no better one.
    private static final int[][] TIES = {
        {0, 1, 1996, 2007, 2003, 2007, 1}, {0, 2, 2002, 1995, 2003, 2001, 2}, {0, 3, 2006, 1996, 1996, 1992, 1},
        {0, 4, 1998, 1999, 1999, 1996, 3}, {0, 5, 1958, 1940, 1918, 1911, 3}, {0, 6, 2000, 2001, 1998, 2002, 3},
        {0, 7, 2003, 1997, 1996, 2004, 16}, {1, 2, 2002, 2002, 2003, 2002, 5}, {1, 3, 1997, 1997, 2000, 2000, 3},
        {1, 4, 1998, 2016, 2018, 2003, 2}, {1, 5, 2016, 1994, 1990, 1982, 5}, {1, 6, 1999, 2000, 2000, 2000, 8},
        {1, 7, 2015, 2007, 2001, 2015, 2}, {2, 3, 1999, 1997, 2001, 2001, 2}, {2, 4, 2001, 2004, 2000, 2003, 5},
        {2, 5, 2001, 2002, 2003, 2004, 16}, {2, 6, 2004, 2002, 1997, 1998, 1}, {2, 7, 2004, 1996, 1997, 1998, 1},
        {3, 4, 2000, 2002, 2000, 1999, 5}, {3, 5, 1992, 1987, 1989, 1988, 5}, {3, 6, 1997, 2002, 1999, 2000, 3},
        {3, 7, 1984, 1999, 1990, 1988, 3}, {4, 5, 1986, 2016, 1981, 2005, 5}, {4, 6, 1999, 2008, 1995, 2001, 3},
        {4, 7, 1998, 2011, 2018, 2010, 8}, {5, 6, 1999, 1993, 1995, 2008, 1}, {5, 7, 2068, 1993, 2070, 2033, 16},
        {6, 7, 1995, 2002, 1997, 2007, 2}};

    private static ArcPlate withPole(int px, int py, int... places) {
        ArcPlate plate = withPoints(1, places);
        plate.setPole(px, py);
        return plate;
    }

    private static void duePole(ArcPlate plate, int x, int y) {
        due(x, plate.whole(2), "x of the pole");
        due(y, plate.whole(3), "y of the pole");
    }

    private static void theFirstOfTwo() {
        tell("of the places in the order of ascending j, and for each j of ascending i, the first one with the least cost");
        for (int[] tie : TIES) {
            ArcPlate plate = withPole(2000, 2000, tie[2], tie[3], tie[4], tie[5]);
            int s = tie[6];
            int x = 2000 + s * I[tie[0]];
            int y = 2000 + s * J[tie[0]];
            int least = plate.costAt(x, y);
            for (int k = 0; k < 8; k++) {
                int there = plate.costAt(2000 + s * I[k], 2000 + s * J[k]);
                boolean tied = k == tie[0] || k == tie[1];
                due(tied ? 1 : 0, there <= least ? 1 : 0, "whether place " + k + " is as good as " + tie[0]);
            }
            due(1, plate.search(s), "moves with places " + tie[0] + " and " + tie[1]);
            duePole(plate, x, y);
        }
    }

    private static void theFirstOfFour() {
        tell("the first of four corners is that with the least j and i, of four sides that with the least j");
        int[] corners = {2000, 2000, 2100, 2000, 1900, 2000, 2000, 2100, 2000, 1900};
        ArcPlate plate = withPole(2000, 2000, corners);
        due(90, plate.costAt(1968, 1968), "cost at a corner");
        due(90, plate.costAt(2032, 2032), "cost at the opposite corner");
        due(3, plate.search(32), "moves of 32, 16 and 1");
        duePole(plate, 1951, 1951);
        ArcPlate sides = withPole(2000, 2000, 2000, 2000, 2100, 2100, 1900, 2100, 2100, 1900, 1900, 1900);
        due(133, sides.costAt(2000, 1968), "cost at a side");
        due(133, sides.costAt(2032, 2000), "cost at another side");
        due(4, sides.search(32), "moves of 32 three times, and of 4");
        duePole(sides, 2000, 1900);
    }

    private static void onlyLessIsTaken() {
        tell("if its cost is less than that of the pole, it becomes the pole");
        ArcPlate empty = new ArcPlate();
        due(0, empty.search(1), "no trails");
        due(0, empty.search(512), "no trails, with the greatest step");
        duePole(empty, 2000, 2000);
        ArcPlate single = withPole(1000, 1000, 3000, 2000);
        due(0, single.search(512), "one point alone");
        duePole(single, 1000, 1000);
        // On the line through both points the cost is their distance, wherever the pole is beyond them.
        ArcPlate line = withPole(2000, 2000, 2010, 2000, 2013, 2000);
        due(3, line.costAt(1999, 2000), "cost one step off");
        due(3, line.costAt(2000, 2001), "cost one step aside");
        due(0, line.search(1), "equal costs around");
        duePole(line, 2000, 2000);
    }

    private static void stepsAreHalved() {
        tell("s becomes floor(s / 2), until it is 0");
        // On the line x = 2000 the cost is 0; beside it twice the distance from it, whatever y is nearby.
        int[][] known = {{2000, 512, 0, 2000, 2000}, {2001, 1, 1, 2000, 1999}, {2001, 512, 1, 2000, 1999},
            {2002, 3, 2, 2000, 1996}, {2003, 5, 2, 2000, 1993}, {2003, 7, 1, 2000, 1997}, {2512, 512, 1, 2000, 1488},
            {2511, 512, 3, 2000, 975}, {2341, 512, 15, 2001, -1968}, {2342, 512, 14, 2000, -1994}};
        for (int[] row : known) {
            ArcPlate plate = withPole(row[0], 2000, 0, 2000, 4000, 2000);
            due(row[2], plate.search(row[1]), "moves from " + row[0] + " by " + row[1]);
            duePole(plate, row[3], row[4]);
        }
    }

    private static void poleAtTheEdge() {
        tell("only places in the range of the pole are looked at");
        int[][] stays = {{6000, 4000, 500, 0, 0, 3000, 6001, 3999}, {-2000, 4000, 3000, 0, 3000, 2000, -2001, 4000},
            {4000, -2000, 500, 1000, 4000, 0, 3999, -2001}, {3000, 6000, 4000, 500, 1000, 500, 2999, 6001}};
        for (int[] row : stays) {
            ArcPlate plate = withPole(row[0], row[1], row[2], row[3], row[4], row[5]);
            due(0, plate.search(1), "moves at the edge " + row[0] + ", " + row[1]);
            duePole(plate, row[0], row[1]);
            badValue(plate, "the place beyond", () -> plate.costAt(row[6], row[7]));
        }
        tell("the ends of the range are places");
        int[][] reaches = {{5999, 1000, 500, 4000, 3000, 500, 6000, 1000}, {-1999, 4000, 500, 3000, 4000, 0, -2000, 3999},
            {0, -1999, 4000, 3000, 500, 3000, -1, -2000}, {0, 5999, 4000, 2000, 3000, 2000, 0, 6000}};
        for (int[] row : reaches) {
            ArcPlate plate = withPole(row[0], row[1], row[2], row[3], row[4], row[5]);
            due(1, plate.search(1), "moves to the edge from " + row[0] + ", " + row[1]);
            duePole(plate, row[6], row[7]);
        }
    }

    private static void placesBeyondTheEdge() {
        tell("a place beyond the edge is left out, not drawn to the edge");
        int[][] known = {{5997, 4000, 500, 500, 3000, 3000, 4, 5997, 3996},
            {-1997, 2000, 500, 3000, 1000, 4000, 4, -1997, 2004}, {2000, 5998, 4000, 500, 3000, 2000, 8, 2008, 5998},
            {0, -1995, 1000, 500, 500, 500, 8, 8, -1995}};
        for (int[] row : known) {
            ArcPlate plate = withPole(row[0], row[1], row[2], row[3], row[4], row[5]);
            due(1, plate.search(row[6]), "moves by " + row[6] + " from " + row[0] + ", " + row[1]);
            duePole(plate, row[7], row[8]);
        }
    }

    private static void poleInACorner() {
        tell("in a corner of the range three places are left");
        ArcPlate plate = withPole(-2000, -2000, 2000, 2000, 2600, 2800);
        due(15, plate.search(512), "moves from a corner");
        duePole(plate, 272, 3920);
        due(0, plate.whole(4), "cost there");
        for (int corner = 0; corner < 4; corner++) {
            int x = corner < 2 ? -2000 : 6000;
            int y = corner % 2 == 0 ? -2000 : 6000;
            ArcPlate still = withPole(x, y, 2000, 2000);
            due(0, still.search(512), "moves in a corner without a cost");
            duePole(still, x, y);
        }
    }

    private static void drifts() {
        tell("the search is by places less the drift, in x by u and in y by v");
        // Measured 10 apart, in frames 10 apart: with a drift of -100 the second place is 20 off, and the pole goes
        // to the line between both; without it the pole would be on that line at first.
        ArcPlate across = withPole(2505, 2000);
        across.addPoint(0, 0, 2500, 2000);
        across.addPoint(0, 10, 2510, 2000);
        across.set(1, -100);
        due(10, across.whole(4), "cost with the drift u");
        due(5, across.search(1), "moves with the drift u");
        duePole(across, 2510, 1995);
        ArcPlate upright = withPole(2000, 2505);
        upright.addPoint(0, 0, 2000, 2500);
        upright.addPoint(0, 10, 2000, 2510);
        upright.set(2, -100);
        due(10, upright.whole(4), "cost with the drift v");
        due(5, upright.search(1), "moves with the drift v");
        duePole(upright, 1995, 2510);
    }

    private static void searchesAreUndone() {
        tell("promise 8: undoable, with and without moves");
        ArcPlate plate = withPole(2001, 2000, 0, 2000, 4000, 2000);
        due(1, plate.search(1), "a move");
        due(0, plate.search(1), "no move");
        due(3, plate.undo(), "undo of no move");
        duePole(plate, 2000, 1999);
        due(2, plate.undo(), "undo of a move");
        duePole(plate, 2001, 2000);
    }

    public static void main(String[] args) {
        theFirstOfTwo();
        theFirstOfFour();
        onlyLessIsTaken();
        stepsAreHalved();
        poleAtTheEdge();
        placesBeyondTheEdge();
        poleInACorner();
        drifts();
        searchesAreUndone();
        end();
    }
}
