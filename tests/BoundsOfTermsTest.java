/** Each sentence of the document's terms, from the cells to the boots, that names a boundary case. */
final class BoundsOfTermsTest {
    private static final int NONE = PuddleCity.NONE;
    private static final int SYNTAX = PuddleCity.SYNTAX;
    private static final int RANGE = PuddleCity.OUT_OF_RANGE;
    private static final String TWO = "row 1 1;row 1 1;";
    private static final String FLAT = "row 0 0;row 0 0;";

    public static void main(String[] args) {
        cells();
        flow();
        gutters();
        passingOfAMinute();
        puddles();
        boots();
        Check.finish();
    }

    private static void cells() {
        columnsAndRows();
        numbersOfCells();
        heights();
        waterAndLeavesAtFirst();
        level();
        dry();
        neighboursInTheCorners();
        nothingGoesRoundTheEdge();
    }

    private static void columnsAndRows() {
        Check.sentence("Cells", "The city has 2 to 8 columns and 2 to 8 rows");
        sized(2, 2);
        sized(8, 2);
        sized(2, 8);
        sized(8, 8);
        Texts.badSetup(SYNTAX, "row 1@;row 1;");
        Texts.badSetup(SYNTAX, "row 1 1 1 1 1 1 1 1 @1;row 1 1 1 1 1 1 1 1 1;");
        Texts.badSetup(PuddleCity.TOO_FEW, "row 1 1;@");
        Texts.badSetup(PuddleCity.TOO_FEW, "row 1 1 1 1 1 1 1 1;@");
        Texts.badSetup(PuddleCity.TOO_MANY, Texts.repeated("row 1 1;", 8) + "@row 1 1;");
    }

    private static void sized(int columns, int rows) {
        PuddleCity city = Check.city(Texts.repeated("row" + Texts.repeated(" 1", columns) + ";", rows));
        Check.same("columns", city.columnCount(), columns);
        Check.same("rows", city.rowCount(), rows);
        Check.same("the last cell", city.heightOf(columns * rows - 1), 1);
        Check.noIndex("no cell behind it", () -> city.heightOf(columns * rows));
    }

    private static void numbersOfCells() {
        Check.sentence("Cells", "the cell in row r and column c has the number r times the number of columns plus c");
        PuddleCity wide = Check.city("row 1 2 3;row 4 5 6;");
        Check.same("the first cell", wide.heightOf(0), 1);
        Check.same("the end of the first row", wide.heightOf(2), 3);
        Check.same("the start of the second row", wide.heightOf(3), 4);
        Check.same("the last cell", wide.heightOf(5), 6);
        PuddleCity high = Check.city("row 1 2;row 3 4;row 5 6;");
        Check.same("the end of the first row of two", high.heightOf(1), 2);
        Check.same("the start of the second row of two", high.heightOf(2), 3);
        Check.same("the start of the last row of two", high.heightOf(4), 5);
        Check.same("the last cell of two columns", high.heightOf(5), 6);
    }

    private static void heights() {
        Check.sentence("Cells", "A cell has a height of 0 to 9");
        PuddleCity city = Check.city("row 0 9;row 9 0;");
        Check.same("the least height", city.heightOf(0), 0);
        Check.same("the greatest height", city.heightOf(1), 9);
        Texts.badSetup(RANGE, "row @10 1;row 1 1;");
        Texts.badSetup(RANGE, "row 1 1;row 1 @10;");
    }

    private static void waterAndLeavesAtFirst() {
        Check.sentence("Cells", "and water and leaves, which are 0 at first");
        PuddleCity city = Check.city("row 0 0;row 0 0;rain 9;");
        Check.same("water, though it will rain", Check.waters(city), "0 0 0 0");
        Check.same("leaves", Check.leaves(city), "0 0 0 0");
        city.passMinutes(5);
        city.dropLeaves(3, 9);
        Check.feed(city, "row 0 0;row 0 0;rain 9;");
        city.loadSetup();
        Check.same("water behind another setup", Check.waters(city), "0 0 0 0");
        Check.same("leaves behind another setup", Check.leaves(city), "0 0 0 0");
    }

    private static void level() {
        Check.sentence("Cells", "Its level is its height plus its water");
        PuddleCity city = Check.city("row 0 9;row 9 9;");
        Check.same("height 0 without water", city.levelOf(0), 0);
        Check.same("height 9 without water", city.levelOf(3), 9);
        city.burst(0, 9, 1);
        city.passMinutes(1);
        Check.same("height 0 with 9 units", city.levelOf(0), 9);
        PuddleCity high = Check.city("row 9 9;row 9 9;rain 9;");
        high.passMinutes(2);
        Check.same("height 9 with 18 units", high.levelOf(3), 27);
    }

    private static void dry() {
        Check.sentence("Cells", "A cell is dry if it has no water");
        PuddleCity city = Check.city("row 0 9;row 9 9;boots a 0 9;boots b 3 9;");
        city.burst(0, 1, 1);
        city.passMinutes(1);
        Check.same("one unit and none", Check.waters(city), "1 0 0 0");
        Check.same("a puddle of one unit", city.puddleOf(0), 0);
        Check.same("no puddle of none", city.puddleOf(3), NONE);
        Check.same("wet part of one unit", city.wetPart(), 0.25f);
        Check.same("dry with one unit", city.minutesUntilDry(0), 9);
        Check.same("dry with none", city.minutesUntilDry(3), 0);
        Check.same("a splash in one unit", city.splash(0), 0);
        Check.noState("a splash in none", () -> city.splash(1));
        city.writeRow(0);
        Check.same("one unit and none written", Check.output(city), "1.");
        city.passMinutes(9);
        Check.same("one unit evaporates and no more", city.evaporated(), 1);
    }

    private static void neighboursInTheCorners() {
        Check.sentence("Cells", "and WEST (the column before), as far as they exist");
        PuddleCity city = Check.city("row 1 1 1;row 1 1 1;row 1 1 1;");
        int[][] due = {
            {NONE, 1, 3, NONE}, {NONE, 2, 4, 0}, {NONE, NONE, 5, 1},
            {0, 4, 6, NONE}, {1, 5, 7, 3}, {2, NONE, 8, 4},
            {3, 7, NONE, NONE}, {4, 8, NONE, 6}, {5, NONE, NONE, 7}
        };
        for (int cell = 0; cell < 9; cell++) {
            for (int direction = 0; direction < 4; direction++) {
                Check.same("of " + cell + " in " + direction, city.neighbour(cell, direction), due[cell][direction]);
            }
        }
        PuddleCity least = Check.city(TWO);
        Check.same("of the last of four to the NORTH", least.neighbour(3, PuddleCity.NORTH), 1);
        Check.same("of the last of four to the EAST", least.neighbour(3, PuddleCity.EAST), NONE);
        Check.same("of the last of four to the SOUTH", least.neighbour(3, PuddleCity.SOUTH), NONE);
        Check.same("of the last of four to the WEST", least.neighbour(3, PuddleCity.WEST), 2);
    }

    /** A unit of water in a pit whose only lower cell lies beyond the edge stays where it is. */
    private static void stays(String setup, int cell) {
        PuddleCity city = Check.city(setup);
        city.burst(cell, 1, 1);
        city.passMinutes(1);
        Check.same("the unit of " + cell + " in " + setup, city.waterOn(cell), 1);
        Check.same("and no other one", city.waterTotal(), 1);
    }

    private static void nothingGoesRoundTheEdge() {
        stays("row 9 9 0;row 5 9 9;", 3);
        stays("row 9 9 5;row 0 9 9;", 2);
        stays("row 0 9;row 9 9;row 5 9;", 4);
        stays("row 5 9;row 9 9;row 0 9;", 0);
        stays("row 0 9 5;row 9 9 9;", 2);
        stays("row 5 9 0;row 9 9 9;", 0);
        PuddleCity city = Check.city("row 9 9 0;row 0 9 9;row 9 9 9;boots a 2 1;boots b 3 1;");
        city.burst(2, 4, 1);
        city.burst(3, 4, 1);
        city.passMinutes(1);
        Check.same("two pits", Check.waters(city), "0 0 4 4 0 0 0 0 0");
        Check.same("the end of a row and the start of the next one are two puddles", city.puddleCount(), 2);
        Check.noState("no walk to the start of the next row", () -> city.walk(0, PuddleCity.EAST));
        Check.noState("no walk to the end of the row before", () -> city.walk(1, PuddleCity.WEST));
        city.burst(2, 1, 1);
        city.passMinutes(1);
        Check.same("a splash at the end of a row", city.splash(0), 2);
        Check.same("reaches two cells", Check.waters(city), "0 1 3 4 0 1 0 0 0");
        PuddleCity dryCity = Check.city("row 1 1 1;row 1 1 1;row 1 1 1;boots a 2 1;boots b 0 1;");
        Check.same("the way to the start of the next row", dryCity.dryWay(0, 3), 3);
        Check.same("the way from the first row to the last", dryCity.dryWay(1, 6), 2);
    }

    private static void flow() {
        lowestInATie();
        halfRoundedDown();
        notMoreThanTheWater();
        noneToWhatIsNotSmaller();
        aLeafGoesWithTheWater();
    }

    private static final int[] AROUND = {1, 5, 7, 3};

    /** The n-th direction, from 0, that is in the set of bits. */
    private static int direction(int set, int n) {
        int seen = 0;
        for (int direction = 0; direction < 4; direction++) {
            if ((set >> direction & 1) == 1) {
                if (seen == n) {
                    return direction;
                }
                seen++;
            }
        }
        return NONE;
    }

    private static String cross(int set) {
        int[] heights = {9, 9, 9, 9, 0, 9, 9, 9, 9};
        for (int direction = 0; direction < 4; direction++) {
            if ((set >> direction & 1) == 1) {
                heights[AROUND[direction]] = 0;
            }
        }
        StringBuilder setup = new StringBuilder();
        for (int cell = 0; cell < 9; cell++) {
            setup.append(cell % 3 == 0 ? "row " : " ").append(heights[cell]).append(cell % 3 == 2 ? ";" : "");
        }
        return setup.toString();
    }

    private static void lowestInATie() {
        Check.sentence("Flow", "among several, the first one in the order NORTH, EAST, SOUTH, WEST");
        for (int set = 1; set < 16; set++) {
            PuddleCity city = Check.city(cross(set));
            city.burst(4, 20, 1);
            city.passMinutes(1);
            int first = AROUND[direction(set, 0)];
            Check.same("water of " + first + " among " + set, city.waterOn(first), 10);
            Check.same("water that is left among " + set, city.waterOn(4), 10);
            int second = direction(set, 1);
            Check.same("flowsTo among " + set, city.flowsTo(4), second == NONE ? NONE : AROUND[second]);
            Check.same("flowFrom among " + set, city.flowFrom(4), second == NONE ? 0 : 5);
        }
        PuddleCity full = Check.city("row 1 1 1;row 1 1 1;row 1 1 1;rain 9;");
        full.passMinutes(9);
        Check.same("all alike and full", full.flowsTo(4), NONE);
    }

    private static void halfRoundedDown() {
        Check.sentence("Flow", "half of the difference of their levels, rounded down");
        // the water of cell 0, and what has flowed to its neighbour of the same height
        int[][] due = {{1, 0}, {2, 1}, {3, 1}, {4, 2}, {5, 2}, {9, 4}, {17, 8}, {18, 9}};
        for (int[] one : due) {
            PuddleCity city = Check.city("row 0 0;row 9 9;");
            city.burst(0, one[0], 1);
            city.passMinutes(1);
            Check.same("flowed of " + one[0], city.waterOn(1), one[1]);
            Check.same("left of " + one[0], city.waterOn(0), one[0] - one[1]);
        }
        // the middle of a cross keeps half of its water, and half of that would flow to its other arm
        int[][] next = {{1, 0}, {2, 0}, {3, 1}, {4, 1}, {5, 1}, {6, 1}, {7, 2}};
        for (int[] one : next) {
            PuddleCity city = Check.city(cross(3));
            city.burst(4, one[0], 1);
            city.passMinutes(1);
            Check.same("flowFrom of half of " + one[0], city.flowFrom(4), one[1]);
            Check.same("flowsTo of half of " + one[0], city.flowsTo(4), one[1] == 0 ? NONE : 5);
        }
    }

    private static void notMoreThanTheWater() {
        Check.sentence("Flow", "but not more than the water on the cell");
        // beside a pit of depth 9: half is less than the water from 10 units on
        String[] due = {"0 1 0 0", "0 7 0 0", "0 8 0 0", "0 9 0 0", "1 9 0 0", "1 10 0 0"};
        int[] units = {1, 7, 8, 9, 10, 11};
        for (int i = 0; i < units.length; i++) {
            PuddleCity city = Check.city("row 9 0;row 9 9;");
            city.burst(0, units[i], 1);
            city.passMinutes(1);
            Check.same("with " + units[i], Check.waters(city), due[i]);
        }
        PuddleCity dry = Check.city("row 9 0;row 9 9;");
        Check.same("from a dry cell", dry.flowFrom(0), 0);
        Check.same("no neighbour for no water", dry.flowsTo(0), NONE);
        dry.passMinutes(1);
        Check.same("nothing has flowed", Check.waters(dry), "0 0 0 0");
    }

    private static void noneToWhatIsNotSmaller() {
        Check.sentence("Flow", "none flows if the level of the neighbour is not smaller");
        PuddleCity equal = Check.city("row 0 0;row 0 0;rain 9;");
        equal.passMinutes(3);
        Check.same("equal levels", Check.waters(equal), "27 27 27 27");
        Check.same("flowFrom of equal levels", equal.flowFrom(0), 0);
        Check.same("flowsTo of equal levels", equal.flowsTo(0), NONE);
        for (int wall = 1; wall <= 9; wall++) {
            PuddleCity pit = Check.city("row 0 " + wall + ";row 9 9;");
            pit.burst(0, 1, 1);
            pit.passMinutes(1);
            Check.same("one unit beside " + wall, Check.waters(pit), "1 0 0 0");
            Check.same("flowFrom beside " + wall, pit.flowFrom(0), 0);
            Check.same("flowsTo beside " + wall, pit.flowsTo(0), NONE);
            pit.passMinutes(1);
            Check.same("nor later beside " + wall, Check.waters(pit), "1 0 0 0");
            PuddleCity dry = Check.city("row 0 " + wall + ";row 9 9;");
            Check.same("flowFrom of none beside " + wall, dry.flowFrom(0), 0);
            Check.same("flowsTo of none beside " + wall, dry.flowsTo(0), NONE);
        }
    }

    private static PuddleCity withLeaves(String setup, int leaves, int units) {
        PuddleCity city = Check.city(setup);
        if (leaves > 0) {
            city.dropLeaves(0, leaves);
        }
        city.burst(0, units, 1);
        city.passMinutes(1);
        return city;
    }

    private static void aLeafGoesWithTheWater() {
        Check.sentence("Flow",
                "If at least 1 unit flows from a cell that has leaves and no gutter, one leaf goes with it");
        String pair = "row 0 0;row 9 9;";
        Check.same("no unit", Check.leaves(withLeaves(pair, 2, 1)), "2 0 0 0");
        Check.same("one unit", Check.leaves(withLeaves(pair, 2, 2)), "1 1 0 0");
        Check.same("ten units", Check.leaves(withLeaves(pair, 2, 20)), "1 1 0 0");
        Check.same("the last leaf", Check.leaves(withLeaves(pair, 1, 2)), "0 1 0 0");
        Check.same("no leaf", Check.leaves(withLeaves(pair, 0, 2)), "0 0 0 0");
        Check.same("nine leaves", Check.leaves(withLeaves(pair, 9, 2)), "8 1 0 0");
        Check.same("beside a gutter", Check.leaves(withLeaves(pair + "gutter 0 1;", 2, 2)), "2 0 0 0");
        Check.same("beside a gutter with flow", Check.leaves(withLeaves(pair + "gutter 0 9;", 2, 2)), "2 0 0 0");
        PuddleCity city = withLeaves(pair + "gutter 1 1;", 1, 2);
        Check.same("into a gutter", Check.leaves(city), "0 1 0 0");
        Check.same("which it plugs at once", city.waterOn(1), 1);
        Check.yes("the leaves are all there", city.isConsistent());
    }

    private static void gutters() {
        Check.sentence("Gutters", "A gutter on a cell has a capacity of 1 to 9");
        PuddleCity city = Check.city(TWO + "gutter 0 1;gutter 3 9;");
        Check.same("the least capacity", city.gutterCapacity(0), 1);
        Check.same("the greatest capacity", city.gutterCapacity(3), 9);
        Texts.badSetup(RANGE, TWO + "gutter 0 @0;");
        Texts.badSetup(RANGE, TWO + "gutter 0 @10;");

        Check.sentence("Gutters",
                "Its flow is the capacity minus the number of leaves on the cell, but not less than 0");
        Check.same("without leaves", city.gutterFlow(3), 9);
        city.dropLeaves(3, 8);
        Check.same("a leaf fewer than the capacity", city.gutterFlow(3), 1);
        city.dropLeaves(3, 1);
        Check.same("as many leaves as the capacity", city.gutterFlow(3), 0);
        city.dropLeaves(3, 1);
        Check.same("a leaf more than the capacity", city.gutterFlow(3), 0);
        city.burst(3, 9, 1);
        Check.same("nothing is drained", city.passMinutes(1), 0);
        Check.same("and nothing comes up", city.fromHydrants() - city.waterTotal(), 0);
    }

    private static void passingOfAMinute() {
        theMinuteGrows();
        rainOnEachCell();
        hydrantsShut();
        orderOfCells();
        guttersDrain();
        evaporation();
        wetInside();
    }

    private static void theMinuteGrows() {
        Check.sentence("Passing of a minute", "The minute grows by 1");
        PuddleCity city = Check.city(TWO);
        city.passMinutes(1);
        Check.same("the first", city.minute(), 1);
        for (int i = 0; i < 16; i++) {
            city.passMinutes(60);
        }
        city.passMinutes(37);
        Check.same("the last but one", city.minute(), 998);
        city.passMinutes(1);
        Check.same("the last", city.minute(), 999);
    }

    private static void rainOnEachCell() {
        Check.sentence("Passing of a minute", "Each cell gets as many units of water as the rain");
        PuddleCity none = Check.city(FLAT + "rain 0;");
        none.passMinutes(1);
        Check.same("no rain", Check.waters(none), "0 0 0 0");
        Check.same("no rain counted", none.rained(), 0);
        PuddleCity most = Check.city(FLAT + "rain 9;");
        most.passMinutes(1);
        Check.same("the most rain", Check.waters(most), "9 9 9 9");
        Check.same("the most rain counted", most.rained(), 36);
    }

    private static void hydrantsShut() {
        Check.sentence("Passing of a minute", "its minutes become 1 less; with 0 minutes left it is shut");
        PuddleCity city = Check.city("row 0 9;row 9 0;");
        city.burst(0, 1, 1);
        city.burst(3, 2, 2);
        city.passMinutes(1);
        Check.same("rate with 0 minutes left", city.hydrantRate(0), 0);
        Check.same("0 minutes left", city.hydrantMinutes(0), 0);
        Check.same("rate with 1 minute left", city.hydrantRate(3), 2);
        Check.same("1 minute left", city.hydrantMinutes(3), 1);
        Check.noState("a shut one cannot be shut", () -> city.shut(0));
        Check.noState("an open one cannot burst", () -> city.burst(3, 1, 1));
        city.passMinutes(1);
        Check.same("both have given all", Check.waters(city), "1 0 0 4");
        Check.same("0 minutes left of the other", city.hydrantMinutes(3), 0);
        city.passMinutes(1);
        Check.same("a shut one gives nothing", city.fromHydrants(), 5);
        Check.same("and its minutes stay", city.hydrantMinutes(3), 0);
        Check.same("it can burst again", city.burst(3, 20, 60), 1);
        city.passMinutes(60);
        Check.same("the longest one", city.fromHydrants(), 5 + 1200);
        Check.same("is shut then", city.hydrantMinutes(3), 0);
        Check.noState("and cannot be shut", () -> city.shut(3));
    }

    private static void orderOfCells() {
        Check.sentence("Passing of a minute",
                "water flows from each cell to its lowest neighbour, as things are when the cell is treated");
        PuddleCity down = Check.city("row 9 8 7;row 9 9 6;");
        down.burst(0, 1, 1);
        down.passMinutes(1);
        Check.same("from the first cell to the last", Check.waters(down), "0 0 0 0 0 1");
        PuddleCity up = Check.city("row 6 7 8;row 9 9 9;");
        up.burst(5, 1, 1);
        up.passMinutes(1);
        Check.same("from the last cell a step", Check.waters(up), "0 0 1 0 0 0");
    }

    private static void guttersDrain() {
        Check.sentence("Passing of a minute",
                "drains as many units from its cell as its flow, but not more than the water there");
        int[][] due = {{2, 2}, {3, 3}, {4, 3}};
        for (int[] one : due) {
            PuddleCity city = Check.city("row 0 9;row 9 9;gutter 0 3;");
            city.burst(0, one[0], 1);
            Check.same("drained of " + one[0], city.passMinutes(1), one[1]);
            Check.same("left of " + one[0], city.waterOn(0), one[0] - one[1]);
        }
        PuddleCity dry = Check.city("row 0 9;row 9 9;gutter 0 9;");
        Check.same("drained of a dry cell", dry.passMinutes(1), 0);
        Check.same("a dry cell stays dry", dry.waterOn(0), 0);
        PuddleCity last = Check.city("row 9 9;row 9 0;gutter 3 1;");
        last.burst(3, 1, 1);
        Check.same("drained of the last cell", last.passMinutes(1), 1);
    }

    private static void evaporation() {
        Check.sentence("Passing of a minute",
                "If the minute is divisible by 10, one unit evaporates from each cell that is not dry");
        PuddleCity city = Check.city("row 0 9;row 9 0;rain 0;");
        city.burst(0, 1, 1);
        city.burst(3, 3, 1);
        int[] minutes = {9, 10, 11, 19, 20, 21, 29, 30, 31, 40};
        int[] due = {0, 2, 2, 2, 3, 3, 3, 4, 4, 4};
        for (int i = 0; i < minutes.length; i++) {
            city.passMinutes(minutes[i] - city.minute());
            Check.same("evaporated at minute " + minutes[i], city.evaporated(), due[i]);
            Check.same("left at minute " + minutes[i], city.waterTotal(), 4 - due[i]);
        }
        PuddleCity late = Check.city(FLAT);
        for (int i = 0; i < 16; i++) {
            late.passMinutes(60);
        }
        late.passMinutes(29);
        late.setRain(1);
        late.passMinutes(1);
        Check.same("at minute 990, all that has rained", late.evaporated(), 4);
        late.passMinutes(9);
        Check.same("not at minute 999", late.evaporated(), 4);
    }

    private static void wetInside() {
        Check.sentence("Passing of a minute",
                "Boots become wet inside if the water on their cell is higher than the boots");
        PuddleCity city = Check.city(FLAT + "rain 1;boots a 0 1;boots b 1 2;boots c 2 8;boots d 3 9;");
        boolean[][] due = new boolean[12][];
        due[1] = new boolean[] {false, false, false, false};
        due[2] = new boolean[] {true, false, false, false};
        due[3] = new boolean[] {true, true, false, false};
        due[8] = due[3];
        due[9] = new boolean[] {true, true, true, false};
        // the tenth unit evaporates at minute 10
        due[10] = due[9];
        due[11] = new boolean[] {true, true, true, true};
        for (int minute = 1; minute <= 11; minute++) {
            city.passMinutes(1);
            for (int boots = 0; boots < 4 && due[minute] != null; boots++) {
                Check.yes("boots " + boots + " at minute " + minute, city.isWet(boots) == due[minute][boots]);
            }
        }
    }

    private static void puddles() {
        Check.sentence("Puddles", "Two neighbouring cells that are not dry belong to the same puddle");
        PuddleCity city = Check.city("row 0 9 9;row 9 0 0;row 9 9 9;");
        city.burst(0, 1, 1);
        city.burst(4, 1, 1);
        city.passMinutes(1);
        Check.same("beside a corner and a dry cell", city.puddleCount(), 2);
        Check.same("the corner", city.puddleOf(0), 0);
        Check.same("the middle", city.puddleOf(4), 1);
        Check.same("the dry cell", city.puddleOf(5), NONE);
        city.burst(5, 1, 1);
        city.passMinutes(1);
        Check.same("a neighbour that is dry no more", city.puddleOf(5), 1);
        Check.same("in the same puddle", city.puddleSize(1), 2);

        Check.sentence("Puddles", "The puddles are numbered from 0 in the order of their smallest cells");
        // the puddle of cell 1 goes down and back to cell 6, behind the one of cell 3
        PuddleCity hooks = Check.city("row 9 0 9 0;row 9 0 9 9;row 0 0 9 0;rain 1;");
        hooks.passMinutes(1);
        Check.same("three puddles", hooks.puddleCount(), 3);
        Check.same("the smallest cell 1", hooks.puddleOf(1), 0);
        Check.same("a later cell of it", hooks.puddleOf(8), 0);
        Check.same("the smallest cell 3", hooks.puddleOf(3), 1);
        Check.same("the smallest cell 11", hooks.puddleOf(11), 2);
    }

    private static void boots() {
        pairsOfBoots();
        names();
        Check.sentence("Boots", "a height of 1 to 9");
        PuddleCity city = Check.city(TWO + "boots a 0 1;boots b 3 9;");
        Check.same("the least height", city.bootHeight(0), 1);
        Check.same("the greatest height", city.bootHeight(1), 9);
        Texts.badSetup(RANGE, TWO + "boots a 0 @0;");
        Texts.badSetup(RANGE, TWO + "boots a 0 @10;");
        Check.sentence("Boots", "several can stand on the same cell");
        PuddleCity crowd = Check.city(TWO + "boots a 3 1;boots b 3 1;boots c 3 1;boots d 2 1;");
        Check.same("a fourth pair comes", crowd.walk(3, PuddleCity.EAST), 3);
        Check.same("and the first one stays", crowd.placeOf(0), 3);
        Check.same("with the third", crowd.placeOf(2), 3);
        wetByWalking();
        aFifthIsThrown();
    }

    private static void pairsOfBoots() {
        Check.sentence("Boots", "There are 0 to 4 pairs of boots, numbered from 0 in the order of the setup");
        PuddleCity none = Check.city(TWO);
        Check.same("no pair", none.bootsCount(), 0);
        Check.noIndex("not the first", () -> none.placeOf(0));
        PuddleCity four = Check.city(TWO + "boots d 3 1;boots c 2 2;boots b 1 3;boots a 0 4;");
        Check.same("four pairs", four.bootsCount(), 4);
        for (int boots = 0; boots < 4; boots++) {
            Check.same("place of " + boots, four.placeOf(boots), 3 - boots);
            Check.same("height of " + boots, four.bootHeight(boots), boots + 1);
            Check.same("letter of " + boots, four.nameByte(boots, 0), 'd' - boots);
        }
        Check.noIndex("not a fifth", () -> four.placeOf(4));
        Texts.badSetup(PuddleCity.TOO_MANY, TWO + "boots d 3 1;boots c 2 2;boots b 1 3;boots a 0 4;@boots e 0 1;");
    }

    private static void names() {
        Check.sentence("Boots", "They have a name of 1 to 6 lower-case letters");
        PuddleCity city = Check.city(TWO + "boots a 0 1;boots zzzzzz 0 1;");
        Check.same("one letter", Check.name(city, 0), "a");
        Check.same("six letters", Check.name(city, 1), "zzzzzz");
        Texts.badSetup(SYNTAX, TWO + "boots @1 1;");
        Texts.badSetup(SYNTAX, TWO + "boots @zzzzzzz 0 1;");
        Texts.badSetup(SYNTAX, TWO + "boots @A 0 1;");
        Texts.badSetup(SYNTAX, TWO + "boots a@B 0 1;");
        Texts.badSetup(SYNTAX, TWO + "boots @`a 0 1;");
        Texts.badSetup(SYNTAX, TWO + "boots @{a 0 1;");
        Check.sentence("Boots", "No two pairs have the same name");
        Texts.badSetup(PuddleCity.BAD_NAME, TWO + "boots a 0 1;boots @a 1 2;");
        Texts.badSetup(PuddleCity.BAD_NAME, TWO + "boots a 0 1;boots b 0 1;boots c 0 1;boots @c 1 2;");
        Texts.badSetup(PuddleCity.BAD_NAME, TWO + "boots abcdef 0 1;boots @abcdef 1 2;");
        Texts.goodSetup(TWO + "boots a 0 1;boots aa 0 1;boots aaaaaa 0 1;boots aaaaa 0 1;", 4);
        Texts.goodSetup(TWO + "boots abcdef 0 1;boots abcdeg 0 1;boots bbcdef 0 1;", 4);
    }

    private static void wetByWalking() {
        Check.sentence("Boots",
                "When boots walk, they become wet inside if the water on the new cell is higher than the "
                + "boots");
        PuddleCity city = Check.city("row 9 0 9;row 9 9 9;boots a 0 1;boots b 0 2;boots c 0 3;");
        city.burst(1, 2, 1);
        city.passMinutes(1);
        for (int boots = 0; boots < 3; boots++) {
            city.walk(boots, PuddleCity.EAST);
        }
        Check.yes("2 units, height 1", city.isWet(0));
        Check.no("2 units, height 2", city.isWet(1));
        Check.no("2 units, height 3", city.isWet(2));
        // two units come to the dry boots by a splash; they walk out of them to a dry cell
        PuddleCity left = Check.city("row 0 9 9;row 9 9 9;boots a 0 9;boots b 1 1;");
        left.burst(0, 10, 1);
        left.passMinutes(1);
        left.splash(0);
        Check.same("two units round the dry boots", left.waterOn(1), 2);
        left.walk(1, PuddleCity.EAST);
        Check.no("the water on the old cell", left.isWet(1));
    }

    private static void aFifthIsThrown() {
        Check.sentence("Boots",
                "When boots splash, a fifth of the water on their cell, rounded down, is thrown to each "
                + "neighbour of the cell");
        for (int units : new int[] {1, 4, 5, 9, 10}) {
            splashed("row 9 9 9;row 9 0 9;row 9 9 9;", 4, 4, units);
            splashed("row 9 0 9;row 9 9 9;row 9 9 9;", 1, 3, units);
            splashed("row 0 9 9;row 9 9 9;row 9 9 9;", 0, 2, units);
            splashed("row 9 9 9;row 9 9 9;row 9 9 0;", 8, 2, units);
        }
        PuddleCity flat = Check.city("row 0 0 0;row 0 0 0;row 0 0 0;rain 9;boots a 4 9;");
        flat.passMinutes(2);
        flat.setRain(1);
        flat.passMinutes(1);
        Check.same("thrown of 19", flat.splash(0), 12);
        Check.same("around 19", Check.waters(flat), "19 22 19 22 7 22 19 22 19");
        flat.undo();
        flat.passMinutes(1);
        Check.same("thrown of 20", flat.splash(0), 16);
        Check.same("around 20", Check.waters(flat), "20 24 20 24 4 24 20 24 20");
    }

    /** At most 10 units stay in a pit of depth 9. */
    private static void splashed(String setup, int cell, int neighbours, int units) {
        PuddleCity city = Check.city(setup + "boots a " + cell + " 9;");
        city.burst(cell, units, 1);
        city.passMinutes(1);
        int fifth = units / 5;
        Check.same("units on " + cell, city.waterOn(cell), units);
        Check.same("thrown of " + units + " from " + cell, city.splash(0), neighbours * fifth);
        Check.same("left of " + units + " on " + cell, city.waterOn(cell), units - neighbours * fifth);
        for (int direction = 0; direction < 4; direction++) {
            int other = city.neighbour(cell, direction);
            Check.same("thrown in " + direction, other == NONE ? fifth : city.waterOn(other), fifth);
        }
    }
}
