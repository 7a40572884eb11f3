/** Promises 8 to 23: what is asked of the city and of its cells. */
final class CellTest {
    private static final int NONE = PuddleCity.NONE;

    public static void main(String[] args) {
        minuteAndSizes();
        heightWaterLevel();
        leavesAndGutters();
        hydrants();
        flows();
        lowestNeighbourInATie();
        neighbours();
        noSuchCell(new PuddleCity(), 9);
        noSuchCell(Check.city("row 1 1;row 1 1;"), 4);
        noSuchCell(Check.city("row 1 1 1 1 1 1 1 1;row 1 1 1 1 1 1 1 1;row 1 1 1 1 1 1 1 1;"), 24);
        Check.finish();
    }

    private static void minuteAndSizes() {
        PuddleCity city = Check.city("row 1 2 3 4 5 6 7 8;row 1 2 3 4 5 6 7 8;rain 9;");
        Check.same("9: columnCount", city.columnCount(), 8);
        Check.same("10: rowCount", city.rowCount(), 2);
        Check.same("11: rain", city.rain(), 9);
        Check.same("8: minute", city.minute(), 0);
        city.passMinutes(60);
        city.passMinutes(1);
        Check.same("8: minute after 61", city.minute(), 61);
        city.waterAfter(0, 100);
        Check.same("8: minute after a forecast", city.minute(), 61);
        city.setRain(0);
        Check.same("11: rain after setRain", city.rain(), 0);
        city = Check.city("row 1 2;row 1 2;row 1 2;row 1 2;row 1 2;row 1 2;row 1 2;row 1 2;");
        Check.same("9: columnCount of 8 rows", city.columnCount(), 2);
        Check.same("10: rowCount of 8 rows", city.rowCount(), 8);
        Check.same("11: no rain", city.rain(), 0);
    }

    private static void heightWaterLevel() {
        PuddleCity city = Check.city("row 0 9;row 9 9;rain 1;");
        Check.same("12: heightOf 0", city.heightOf(0), 0);
        Check.same("12: heightOf 3", city.heightOf(3), 9);
        Check.same("14: levelOf a dry cell", city.levelOf(3), 9);
        city.passMinutes(1);
        // cell 0 keeps its unit, 1 and 2 give theirs to 0, and 3 gives none: its level is 10, theirs 9
        Check.same("13: water", Check.waters(city), "3 0 0 1");
        Check.same("14: levelOf 0", city.levelOf(0), 3);
        Check.same("14: levelOf 1", city.levelOf(1), 9);
        Check.same("14: levelOf 3", city.levelOf(3), 10);
        Check.same("12: the height is without the water", city.heightOf(0), 0);
    }

    private static void leavesAndGutters() {
        PuddleCity city = Check.city("row 1 1;row 1 1;gutter 1 3;gutter 2 9;gutter 3 1;");
        Check.no("18: capacity 1", city.isPlugged(3));
        city.dropLeaves(3, 1);
        Check.yes("18: capacity 1 and a leaf", city.isPlugged(3));
        Check.same("15: leavesOn", city.leavesOn(1), 0);
        Check.same("16: gutterCapacity", city.gutterCapacity(1), 3);
        Check.same("16: no gutter", city.gutterCapacity(0), 0);
        Check.same("17: gutterFlow", city.gutterFlow(1), 3);
        Check.same("17: flow without gutter", city.gutterFlow(0), 0);
        Check.no("18: isPlugged", city.isPlugged(1));
        Check.no("18: no gutter is not plugged", city.isPlugged(0));
        city.dropLeaves(1, 2);
        Check.same("15: leaves", city.leavesOn(1), 2);
        Check.same("17: flow with leaves", city.gutterFlow(1), 1);
        Check.no("18: still open", city.isPlugged(1));
        city.dropLeaves(1, 1);
        Check.same("17: as many leaves as capacity", city.gutterFlow(1), 0);
        Check.yes("18: plugged", city.isPlugged(1));
        city.dropLeaves(1, 9);
        Check.same("17: not less than 0", city.gutterFlow(1), 0);
        Check.yes("18: plugged by more", city.isPlugged(1));
        Check.same("16: the capacity stays", city.gutterCapacity(1), 3);
        Check.same("15: leaves of all", city.leavesOn(1), 12);
        city.dropLeaves(0, 5);
        Check.same("17: leaves without gutter", city.gutterFlow(0), 0);
        Check.no("18: leaves without gutter", city.isPlugged(0));
        Check.same("17: the other gutter", city.gutterFlow(2), 9);
    }

    private static void hydrants() {
        PuddleCity city = Check.city("row 1 1;row 1 1;");
        Check.same("19: no hydrant", city.hydrantRate(3), 0);
        Check.same("20: no hydrant", city.hydrantMinutes(3), 0);
        city.burst(3, 7, 2);
        Check.same("19: rate", city.hydrantRate(3), 7);
        Check.same("20: minutes", city.hydrantMinutes(3), 2);
        Check.same("19: another cell", city.hydrantRate(2), 0);
        city.passMinutes(1);
        Check.same("19: rate after a minute", city.hydrantRate(3), 7);
        Check.same("20: minutes after a minute", city.hydrantMinutes(3), 1);
        city.passMinutes(1);
        Check.same("19: rate when shut", city.hydrantRate(3), 0);
        Check.same("20: minutes when shut", city.hydrantMinutes(3), 0);
        Check.same("31: two minutes of it", city.fromHydrants(), 14);
        city.passMinutes(5);
        Check.same("31: no more of it", city.fromHydrants(), 14);
        Check.same("20: not below 0", city.hydrantMinutes(3), 0);
    }

    private static void flows() {
        PuddleCity city = Check.city("row 5 0;row 9 9;");
        Check.same("21: a dry cell", city.flowsTo(0), NONE);
        Check.same("22: a dry cell", city.flowFrom(0), 0);
        city.burst(3, 20, 1);
        city.passMinutes(1);
        // level 29 beside level 0: half is 14, and 6 remain
        Check.same("13: water after a burst", Check.waters(city), "0 14 0 6");
        Check.same("21: to the lowest, which is WEST now", city.flowsTo(3), 2);
        Check.same("22: half of 15 - 9", city.flowFrom(3), 3);
        Check.same("21: to 0, whose level is 5", city.flowsTo(1), 0);
        Check.same("22: half of 14 - 5, rounded down", city.flowFrom(1), 4);
        Check.same("21: dry and higher than its neighbour", city.flowsTo(2), NONE);
        Check.same("22: dry and higher than its neighbour", city.flowFrom(2), 0);
        city = Check.city("row 9 0;row 9 9;rain 1;");
        city.setRain(0);
        city.burst(2, 1, 1);
        city.passMinutes(1);
        Check.same("13: a difference of 1 gives no flow", city.waterOn(2), 1);
        Check.same("21: a difference of 1", city.flowsTo(2), NONE);
        Check.same("22: a difference of 1", city.flowFrom(2), 0);
        city.burst(0, 3, 1);
        city.passMinutes(1);
        Check.same("13: not more than there is", Check.waters(city), "0 3 1 0");
        city.burst(0, 20, 1);
        city.passMinutes(1);
        // 0: 29 beside 3 gives 13; 1: 16 beside 9 gives 3; 2: nothing is lower; 3: 12 beside 10 gives 1
        Check.same("13: half of 29 - 3", Check.waters(city), "7 13 2 2");
        Check.same("21: to 3 with 11, not to 0 with 16", city.flowsTo(1), 3);
        Check.same("22: half of 13 - 11", city.flowFrom(1), 1);
        Check.same("21: SOUTH with 11, not EAST with 13", city.flowsTo(0), 2);
        Check.same("22: half of 16 - 11, rounded down", city.flowFrom(0), 2);
        Check.same("21: equal levels", city.flowsTo(3), NONE);
        Check.same("22: equal levels", city.flowFrom(3), 0);
    }

    /** Which neighbour of the middle cell of 3 times 3 gets its water first. */
    private static void tie(String heights, int to) {
        PuddleCity city = Check.city(heights);
        city.burst(4, 2, 1);
        city.passMinutes(1);
        for (int cell = 0; cell < 9; cell++) {
            Check.same("54: water of cell " + cell + " in " + heights, city.waterOn(cell),
                    cell == to ? 2 : 0);
        }
    }

    private static void lowestNeighbourInATie() {
        tie("row 9 0 9;row 0 5 0;row 9 0 9;", 1);
        tie("row 9 1 9;row 0 5 0;row 9 0 9;", 5);
        tie("row 9 1 9;row 0 5 1;row 9 0 9;", 7);
        tie("row 9 1 9;row 0 5 1;row 9 1 9;", 3);
        tie("row 0 1 0;row 1 5 1;row 0 1 0;", 1);
        PuddleCity city = Check.city("row 9 0 9;row 0 9 0;row 9 0 9;");
        city.burst(4, 20, 1);
        city.passMinutes(1);
        Check.same("13: 14 flowed to the NORTH", Check.waters(city), "0 14 0 0 6 0 0 0 0");
        Check.same("21: EAST is the first of three", city.flowsTo(4), 5);
        Check.same("22: not more than there is", city.flowFrom(4), 6);
        city = Check.city("row 9 5 9;row 0 9 5;row 9 0 9;");
        city.burst(4, 20, 1);
        city.passMinutes(1);
        // 14 flow to 7; 7: 14 beside 9 gives 2 to 8, and these go on to 5
        Check.same("13: 14 flowed to the SOUTH", Check.waters(city), "0 0 0 0 6 2 0 12 0");
        Check.same("21: WEST is the lowest", city.flowsTo(4), 3);
    }

    private static void neighbours() {
        PuddleCity city = Check.city("row 1 1 1 1;row 1 1 1 1;row 1 1 1 1;");
        int[][] due = {
            {0, NONE, 1, 4, NONE}, {3, NONE, NONE, 7, 2}, {4, 0, 5, 8, NONE}, {5, 1, 6, 9, 4},
            {7, 3, NONE, 11, 6}, {8, 4, 9, NONE, NONE}, {11, 7, NONE, NONE, 10}
        };
        for (int[] one : due) {
            for (int direction = 0; direction < 4; direction++) {
                Check.same("23: neighbour of " + one[0] + " in " + direction,
                        city.neighbour(one[0], direction), one[1 + direction]);
            }
        }
        Check.noArgument("23: direction -1", () -> city.neighbour(0, -1));
        Check.noArgument("23: direction 4", () -> city.neighbour(0, 4));
        Check.noArgument("23: least direction", () -> city.neighbour(11, Integer.MIN_VALUE));
        Check.noArgument("23: greatest direction", () -> city.neighbour(11, Integer.MAX_VALUE));
        Check.noIndex("23: cell -1", () -> city.neighbour(-1, 0));
        Check.noIndex("23: cell 12", () -> city.neighbour(12, 0));
        Check.noIndex("23: the cell comes first", () -> city.neighbour(12, 4));
    }

    private static void noSuchCell(PuddleCity city, int cells) {
        for (int wrong : new int[] {-1, cells, cells + 1, 64, Integer.MIN_VALUE, Integer.MAX_VALUE}) {
            Check.noIndex("12: " + wrong, () -> city.heightOf(wrong));
            Check.noIndex("13: " + wrong, () -> city.waterOn(wrong));
            Check.noIndex("14: " + wrong, () -> city.levelOf(wrong));
            Check.noIndex("15: " + wrong, () -> city.leavesOn(wrong));
            Check.noIndex("16: " + wrong, () -> city.gutterCapacity(wrong));
            Check.noIndex("17: " + wrong, () -> city.gutterFlow(wrong));
            Check.noIndex("18: " + wrong, () -> city.isPlugged(wrong));
            Check.noIndex("19: " + wrong, () -> city.hydrantRate(wrong));
            Check.noIndex("20: " + wrong, () -> city.hydrantMinutes(wrong));
            Check.noIndex("21: " + wrong, () -> city.flowsTo(wrong));
            Check.noIndex("22: " + wrong, () -> city.flowFrom(wrong));
            Check.noIndex("23: " + wrong, () -> city.neighbour(wrong, 0));
        }
        Check.same("12: the last cell", city.heightOf(cells - 1), city.levelOf(cells - 1));
    }
}
