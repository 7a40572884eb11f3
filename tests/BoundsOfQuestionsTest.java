import java.util.function.IntConsumer;

/** Each sentence of the promises 8 to 46, the questions and the forecasts, that names a boundary case. */
final class BoundsOfQuestionsTest {
    private static final int NONE = PuddleCity.NONE;
    private static final int LEAST = Integer.MIN_VALUE;
    private static final int MOST = Integer.MAX_VALUE;
    private static final String TWO = "row 1 1;row 1 1;";
    private static final String PIT = "row 0 9;row 9 9;";

    public static void main(String[] args) {
        minuteAndRain();
        noSuchCell();
        guttersAndHydrants();
        flows();
        neighbours();
        puddles();
        sums();
        boots();
        ways();
        forecasts();
        means();
        consistent();
        Check.finish();
    }

    private static String largest() {
        return Texts.repeated("row 1 1 1 1 1 1 1 1;", 8);
    }

    private static void minuteAndRain() {
        Check.sentence("Promise 8", "Returns the number of minutes that have passed");
        PuddleCity city = Check.city(TWO + "rain 9;");
        Check.same("none", city.minute(), 0);
        city.waterAfter(0, 100);
        city.minutesUntilDry(0);
        Check.same("none by forecasts", city.minute(), 0);
        city.passMinutes(60);
        Check.same("60", city.minute(), 60);
        PuddleCity wide = Check.city("row 1 1 1 1 1 1 1 1;row 1 1 1 1 1 1 1 1;");
        PuddleCity high = Check.city(Texts.repeated("row 1 1;", 8));
        Check.sentence("Promise 9", "Returns the number of columns");
        Check.same("the most", wide.columnCount(), 8);
        Check.same("the fewest", high.columnCount(), 2);
        Check.sentence("Promise 10", "Returns the number of rows");
        Check.same("the fewest", wide.rowCount(), 2);
        Check.same("the most", high.rowCount(), 8);
        Check.sentence("Promise 11", "Returns the units of water that fall on each cell in a minute");
        Check.same("the most", city.rain(), 9);
        city.setRain(0);
        Check.same("none", city.rain(), 0);
    }

    /** Asks for the cells on both sides of the bounds of three cities; those inside them must answer. */
    private static void boundsOfCells(String promise, Asked asked) {
        Check.sentence(promise, "IndexOutOfBoundsException if there is no such cell");
        PuddleCity[] cities = {new PuddleCity(), Check.city(TWO), Check.city(largest())};
        for (PuddleCity city : cities) {
            int cells = city.columnCount() * city.rowCount();
            IntConsumer question = cell -> asked.of(city, cell);
            question.accept(0);
            question.accept(cells - 1);
            for (int wrong : new int[] {-1, cells, cells + 1, 64, 255, LEAST, MOST}) {
                Check.noIndex("cell " + wrong + " of " + cells, () -> question.accept(wrong));
            }
            Check.noElement("no change by a question", city::undo);
        }
    }

    private interface Asked {
        void of(PuddleCity city, int cell);
    }

    private static void noSuchCell() {
        boundsOfCells("Promise 12", PuddleCity::heightOf);
        boundsOfCells("Promise 13", PuddleCity::waterOn);
        boundsOfCells("Promise 14", PuddleCity::levelOf);
        boundsOfCells("Promise 15", PuddleCity::leavesOn);
        boundsOfCells("Promise 16", PuddleCity::gutterCapacity);
        boundsOfCells("Promise 17", PuddleCity::gutterFlow);
        boundsOfCells("Promise 18", PuddleCity::isPlugged);
        boundsOfCells("Promise 19", PuddleCity::hydrantRate);
        boundsOfCells("Promise 20", PuddleCity::hydrantMinutes);
        boundsOfCells("Promise 21", PuddleCity::flowsTo);
        boundsOfCells("Promise 22", PuddleCity::flowFrom);
        boundsOfCells("Promise 23", (city, cell) -> city.neighbour(cell, PuddleCity.NORTH));
        boundsOfCells("Promise 25", PuddleCity::puddleOf);
        boundsOfCells("Promise 41", (city, cell) -> city.waterAfter(cell, 0));
        boundsOfCells("Promise 42", PuddleCity::minutesUntilDry);
        Check.sentence("Promise 4", "A valid setup replaces everything except the output");
        PuddleCity city = Check.city(largest());
        Check.feed(city, TWO);
        city.loadSetup();
        Check.noIndex("heightOf a cell of the larger city before", () -> city.heightOf(4));
        Check.noIndex("puddleOf a cell of the larger city before", () -> city.puddleOf(63));
    }

    private static void guttersAndHydrants() {
        PuddleCity city = Check.city(TWO + "gutter 1 1;gutter 2 9;");
        Check.sentence("Promise 16", "or 0 if the cell has no gutter");
        Check.same("none", city.gutterCapacity(0), 0);
        Check.same("the least", city.gutterCapacity(1), 1);
        Check.same("the greatest", city.gutterCapacity(2), 9);
        Check.sentence("Promise 17", "but not less than 0; 0 if the cell has no gutter");
        Check.same("no gutter", city.gutterFlow(0), 0);
        Check.same("no leaves", city.gutterFlow(1), 1);
        city.dropLeaves(0, 9);
        city.dropLeaves(1, 1);
        Check.same("leaves and no gutter", city.gutterFlow(0), 0);
        Check.same("as many leaves", city.gutterFlow(1), 0);
        city.dropLeaves(1, 9);
        Check.same("more leaves", city.gutterFlow(1), 0);
        Check.sentence("Promise 18", "Returns true if the cell has a gutter whose flow is 0");
        Check.no("leaves and no gutter", city.isPlugged(0));
        Check.no("neither leaves nor gutter", city.isPlugged(3));
        Check.yes("more leaves than capacity", city.isPlugged(1));
        Check.no("no leaves", city.isPlugged(2));
        city.dropLeaves(2, 8);
        Check.no("a flow of 1", city.isPlugged(2));
        city.dropLeaves(2, 1);
        Check.yes("a flow of 0", city.isPlugged(2));
        Check.same("whose capacity stays", city.gutterCapacity(2), 9);
        hydrants();
    }

    private static void hydrants() {
        PuddleCity never = Check.city(TWO);
        PuddleCity open = Check.city(TWO);
        open.burst(0, 20, 60);
        open.burst(3, 1, 1);
        PuddleCity shut = Check.city(TWO);
        shut.burst(0, 20, 60);
        shut.shut(0);
        shut.burst(3, 1, 1);
        shut.passMinutes(1);
        Check.sentence("Promise 19", "or 0 if no hydrant is open there");
        Check.same("the greatest", open.hydrantRate(0), 20);
        Check.same("the least", open.hydrantRate(3), 1);
        Check.same("on another cell", open.hydrantRate(1), 0);
        Check.same("never opened", never.hydrantRate(0), 0);
        Check.same("shut", shut.hydrantRate(0), 0);
        Check.same("shut by itself", shut.hydrantRate(3), 0);
        Check.sentence("Promise 20", "or 0 if no hydrant is open there");
        Check.same("the most", open.hydrantMinutes(0), 60);
        Check.same("the fewest", open.hydrantMinutes(3), 1);
        Check.same("on another cell", open.hydrantMinutes(1), 0);
        Check.same("never opened", never.hydrantMinutes(0), 0);
        Check.same("shut", shut.hydrantMinutes(0), 0);
        Check.same("shut by itself", shut.hydrantMinutes(3), 0);
    }

    private static void flows() {
        Check.sentence("Promise 21", "or NONE if none would flow");
        PuddleCity dry = new PuddleCity();
        for (int cell = 0; cell < 9; cell++) {
            Check.same("flowsTo of the dry cell " + cell, dry.flowsTo(cell), NONE);
            Check.same("flowFrom of the dry cell " + cell, dry.flowFrom(cell), 0);
        }
        // half flows to the NORTH; what is left stands beside the dry cells in the EAST and in the WEST
        for (int units = 1; units <= 4; units++) {
            PuddleCity city = Check.city("row 9 0 9;row 0 0 0;row 9 9 9;");
            city.burst(4, units, 1);
            city.passMinutes(1);
            int left = units - units / 2;
            Check.same("flowsTo with a difference of " + left, city.flowsTo(4), left < 2 ? NONE : 5);
            Check.same("flowFrom with a difference of " + left, city.flowFrom(4), left / 2);
        }
        Check.sentence("Promise 21", "Returns the number of the lowest neighbour if water would flow to it now");
        PuddleCity first = Check.city("row 0 9;row 9 0;");
        first.burst(2, 20, 1);
        first.passMinutes(1);
        // 2: 29 beside 0 gives 14 to 0, and 6 with level 15 remain beside 3
        Check.same("the last cell", first.flowsTo(2), 3);
        Check.same("all of its water", first.flowFrom(2), 6);
        PuddleCity toFirst = Check.city("row 0 9;row 9 9;");
        toFirst.burst(3, 20, 1);
        toFirst.passMinutes(1);
        // 3: 29 beside 9 gives 10 to 1, whose 10 would flow on to the first cell
        Check.same("the first cell", toFirst.flowsTo(1), 0);
        Check.same("half of 19 - 0, rounded down", toFirst.flowFrom(1), 9);
    }

    private static void neighbours() {
        Check.sentence("Promise 23", "or NONE at the edge");
        PuddleCity city = Check.city(largest());
        for (int i = 0; i < 8; i++) {
            Check.same("NORTH of " + i, city.neighbour(i, PuddleCity.NORTH), NONE);
            Check.same("EAST of the row " + i, city.neighbour(8 * i + 7, PuddleCity.EAST), NONE);
            Check.same("SOUTH of " + (56 + i), city.neighbour(56 + i, PuddleCity.SOUTH), NONE);
            Check.same("WEST of the row " + i, city.neighbour(8 * i, PuddleCity.WEST), NONE);
            Check.same("SOUTH of " + i, city.neighbour(i, PuddleCity.SOUTH), 8 + i);
            Check.same("NORTH of " + (56 + i), city.neighbour(56 + i, PuddleCity.NORTH), 48 + i);
            Check.same("EAST of the start of the row " + i, city.neighbour(8 * i, PuddleCity.EAST), 8 * i + 1);
            Check.same("WEST of the end of the row " + i, city.neighbour(8 * i + 7, PuddleCity.WEST), 8 * i + 6);
        }
        Check.sentence("Promise 23", "IllegalArgumentException if direction is outside its range");
        for (int wrong : new int[] {-1, 4, 5, LEAST, MOST}) {
            Check.noArgument("direction " + wrong, () -> city.neighbour(0, wrong));
            Check.noArgument("direction " + wrong + " of the last cell", () -> city.neighbour(63, wrong));
            Check.noIndex("the cell is named first", () -> city.neighbour(64, wrong));
            Check.noIndex("the cell is named first", () -> city.neighbour(-1, wrong));
        }
    }

    private static void noPuddle(PuddleCity city, int count) {
        Check.same("puddles", city.puddleCount(), count);
        Check.sentence("Promise 26", "IndexOutOfBoundsException if there is no such puddle");
        for (int wrong : new int[] {-1, count, count + 1, 64, LEAST, MOST}) {
            Check.noIndex("puddle " + wrong + " of " + count, () -> city.puddleSize(wrong));
        }
        Check.sentence("Promise 27", "IndexOutOfBoundsException if there is no such puddle");
        for (int wrong : new int[] {-1, count, count + 1, 64, LEAST, MOST}) {
            Check.noIndex("puddle " + wrong + " of " + count, () -> city.puddleWater(wrong));
        }
    }

    private static void puddles() {
        Check.sentence("Promise 24", "Returns the number of puddles");
        PuddleCity dry = new PuddleCity();
        noPuddle(dry, 0);
        Check.sentence("Promise 24", "Returns the number of puddles");
        PuddleCity one = Check.city(largest() + "rain 1;");
        one.passMinutes(1);
        noPuddle(one, 1);
        Check.sentence("Promise 24", "Returns the number of puddles");
        PuddleCity most = Check.city(Texts.repeated("row 0 9 0 9 0 9 0 9;row 9 0 9 0 9 0 9 0;", 4) + "rain 1;");
        Check.noIndex("none before the rain", () -> most.puddleSize(31));
        most.passMinutes(1);
        Check.same("the last one as soon as it rains", most.puddleSize(31), 1);
        most.undo();
        Check.noIndex("none when the rain is undone", () -> most.puddleWater(0));
        most.passMinutes(1);
        noPuddle(most, 32);

        Check.sentence("Promise 25", "or NONE if the cell is dry");
        Check.same("in a dry city", dry.puddleOf(0), NONE);
        Check.same("the first puddle", most.puddleOf(0), 0);
        Check.same("the last puddle", most.puddleOf(63), 31);
        Check.same("the dry cell before it", most.puddleOf(62), NONE);
        Check.sentence("Promise 26", "Returns the number of cells");
        Check.same("all cells", one.puddleSize(0), 64);
        Check.same("one cell", most.puddleSize(0), 1);
        Check.same("one cell of the last puddle", most.puddleSize(31), 1);
        Check.sentence("Promise 27", "Returns the units of water");
        Check.same("of all cells", one.puddleWater(0), 64);
        int sum = 0;
        for (int puddle = 0; puddle < 32; puddle++) {
            sum += most.puddleWater(puddle);
        }
        Check.same("of all puddles", sum, 64);

        Check.sentence("Promise 28", "the smallest number in a tie");
        Check.same("all cells dry", dry.deepestCell(), 0);
        Check.same("all cells alike", one.deepestCell(), 0);
        PuddleCity tie = Check.city("row 9 0;row 9 0;");
        tie.burst(1, 4, 1);
        tie.passMinutes(1);
        Check.same("two alike behind a dry one", Check.waters(tie), "0 2 0 2");
        Check.same("the first of them", tie.deepestCell(), 1);
        tie.burst(3, 1, 1);
        tie.passMinutes(1);
        Check.same("the second one has a unit more", tie.waterOn(3) - tie.waterOn(1), 1);
        Check.same("the last cell", tie.deepestCell(), 3);
    }

    private static void sums() {
        PuddleCity dry = Check.city(PIT + "gutter 0 1;");
        dry.passMinutes(10);
        PuddleCity most = longestAndWettest();
        Check.sentence("Promise 29", "Returns the units of water");
        Check.same("nothing", dry.waterTotal(), 0);
        Check.same("the most", most.waterTotal(), 999 * 9 * 64 + 1200 * 64 - 99 * 64);
        Check.sentence("Promise 30", "Returns the units of water since the setup");
        Check.same("nothing", dry.rained(), 0);
        Check.same("the most", most.rained(), 999 * 9 * 64);
        Check.sentence("Promise 31", "Returns the units of water since the setup");
        Check.same("nothing", dry.fromHydrants(), 0);
        Check.same("all hydrants at once", most.fromHydrants(), 1200 * 64);
        Check.sentence("Promise 32", "Returns the units of water since the setup");
        Check.same("nothing from dry cells", dry.drained(), 0);
        Check.same("nothing without gutters", most.drained(), 0);
        PuddleCity gutters = Check.city("row 9 9;row 9 9;gutter 0 9;gutter 1 9;gutter 2 9;gutter 3 9;rain 9;");
        toTheLastMinute(gutters);
        Check.same("all that has rained", gutters.drained(), 999 * 9 * 4);
        Check.same("so nothing is left", gutters.waterTotal(), 0);
        Check.sentence("Promise 33", "Returns the units of water since the setup");
        Check.same("nothing from dry cells", dry.evaporated(), 0);
        Check.same("nothing behind gutters that drain all", gutters.evaporated(), 0);
        Check.same("in each tenth minute", most.evaporated(), 99 * 64);
        Check.sentence("Promise 46",
                "the water that rained or came out of hydrants is on the cells, drained or evaporated");
        Check.yes("nothing", dry.isConsistent());
        Check.yes("the most", most.isConsistent());
        Check.yes("all drained", gutters.isConsistent());
        Check.sentence("Promise 44",
                "Returns the water on all cells divided by the number of cells, both converted to double");
        Check.same("the most", most.meanWater(), 999.0 * 9.0 + 1200.0 - 99.0);
        Check.same("none", gutters.meanWater(), 0.0);
    }

    /** All that can rain in 999 minutes upon the largest city, and each hydrant once. */
    private static PuddleCity longestAndWettest() {
        PuddleCity city = Check.city(largest() + "rain 9;");
        for (int cell = 0; cell < 64; cell++) {
            city.burst(cell, 20, 60);
        }
        toTheLastMinute(city);
        return city;
    }

    private static void toTheLastMinute(PuddleCity city) {
        for (int i = 0; i < 16; i++) {
            city.passMinutes(60);
        }
        city.passMinutes(39);
    }

    private interface OfBoots {
        void of(PuddleCity city, int boots);
    }

    private static void boundsOfBoots(String promise, OfBoots asked) {
        Check.sentence(promise, "IndexOutOfBoundsException if there are no such boots");
        PuddleCity[] cities = {Check.city(TWO), Check.city(TWO + "boots a 0 1;"), new PuddleCity(),
            Check.city(TWO + "boots a 0 1;boots b 0 1;boots c 0 1;boots d 0 1;")};
        int[] counts = {0, 1, 2, 4};
        for (int i = 0; i < cities.length; i++) {
            PuddleCity city = cities[i];
            int count = counts[i];
            Check.same("pairs", city.bootsCount(), count);
            for (int boots = 0; boots < count; boots++) {
                asked.of(city, boots);
            }
            for (int wrong : new int[] {-1, count, count + 1, 4, 64, LEAST, MOST}) {
                Check.noIndex("boots " + wrong + " of " + count, () -> asked.of(city, wrong));
            }
        }
    }

    private static void boots() {
        boundsOfBoots("Promise 35", (city, boots) -> city.nameByte(boots, 0));
        boundsOfBoots("Promise 35, with no letter", (city, boots) -> city.nameByte(boots, -1));
        boundsOfBoots("Promise 36", PuddleCity::placeOf);
        boundsOfBoots("Promise 37", PuddleCity::bootHeight);
        boundsOfBoots("Promise 38", PuddleCity::isWet);
        boundsOfBoots("Promise 39", PuddleCity::splashesOf);
        boundsOfBoots("Promise 40", (city, boots) -> city.dryWay(boots, 0));

        Check.sentence("Promise 35", "or NONE if the name has no letter with this index");
        PuddleCity city = Check.city(TWO + "boots z 0 1;boots abcdef 0 1;");
        Check.same("the only letter", city.nameByte(0, 0), 'z');
        Check.same("behind it", city.nameByte(0, 1), NONE);
        Check.same("a letter of the other name", city.nameByte(0, 5), NONE);
        Check.same("the sixth letter", city.nameByte(1, 5), 'f');
        Check.same("behind the sixth", city.nameByte(1, 6), NONE);
        for (int wrong : new int[] {-1, 6, 7, LEAST, MOST}) {
            Check.same("index " + wrong, city.nameByte(1, wrong), NONE);
        }
        Check.sentence("Promise 38", "Returns true if the water was higher than the boots once");
        PuddleCity pit = Check.city(PIT + "boots a 0 1;boots b 0 2;gutter 0 1;");
        Check.no("never", pit.isWet(0));
        pit.burst(0, 3, 1);
        pit.passMinutes(1);
        Check.yes("now", pit.isWet(0));
        Check.no("as high as the boots", pit.isWet(1));
        pit.passMinutes(2);
        Check.same("dry again", pit.waterOn(0), 0);
        Check.yes("but once", pit.isWet(0));
        Check.sentence("Promise 39", "Returns the number of splashes since the setup");
        Check.same("none", pit.splashesOf(0), 0);
        pit.burst(0, 2, 1);
        pit.passMinutes(1);
        pit.splash(0);
        Check.same("one that throws nothing", pit.splashesOf(0), 1);
        Check.same("none of the other boots", pit.splashesOf(1), 0);
    }

    private static void ways() {
        Check.sentence("Promise 40", "IndexOutOfBoundsException if there are no such boots or no such cell");
        for (PuddleCity city : new PuddleCity[] {new PuddleCity(), Check.city(TWO + "boots a 0 1;boots b 0 1;"),
                Check.city(largest() + "boots a 0 1;boots b 0 1;")}) {
            int cells = city.columnCount() * city.rowCount();
            city.dryWay(1, 0);
            city.dryWay(1, cells - 1);
            for (int wrong : new int[] {-1, cells, cells + 1, 64, LEAST, MOST}) {
                Check.noIndex("cell " + wrong, () -> city.dryWay(0, wrong));
                Check.noIndex("boots 2 and cell " + wrong, () -> city.dryWay(2, wrong));
            }
        }
        Check.sentence("Promise 40", "over cells whose water is not higher than the boots, this cell included");
        PuddleCity pit = Check.city("row 9 0 9;row 9 0 9;boots a 0 1;boots b 0 2;boots c 0 3;");
        pit.burst(1, 4, 1);
        pit.passMinutes(1);
        Check.same("two pits of 2", Check.waters(pit), "0 2 0 0 2 0");
        Check.same("to water higher than the boots", pit.dryWay(0, 1), NONE);
        Check.same("to water as high as the boots", pit.dryWay(1, 1), 1);
        Check.same("to water lower than the boots", pit.dryWay(2, 1), 1);
        Check.same("through water higher than the boots", pit.dryWay(0, 2), NONE);
        Check.same("through water as high as the boots", pit.dryWay(1, 2), 2);
        Check.same("beside it", pit.dryWay(0, 3), 1);
        Check.sentence("Promise 40", "0 to the own cell");
        Check.same("dry", pit.dryWay(0, 0), 0);
        pit.walk(0, PuddleCity.EAST);
        Check.same("deeper than the boots", pit.dryWay(0, 1), 0);
        Check.same("and out of it", pit.dryWay(0, 0), 1);
        Check.sentence("Promise 40", "Returns the least number of steps to the cell");
        PuddleCity most = Check.city(largest() + "boots a 0 1;boots b 63 1;boots c 27 1;");
        for (int cell = 0; cell < 64; cell++) {
            Check.same("from 0 to " + cell, most.dryWay(0, cell), cell / 8 + cell % 8);
            Check.same("from 63 to " + cell, most.dryWay(1, cell), 14 - cell / 8 - cell % 8);
            Check.same("from 27 to " + cell, most.dryWay(2, cell),
                    Math.abs(3 - cell / 8) + Math.abs(3 - cell % 8));
        }
        // walls of water between the rows leave one gap each, at alternate ends: the longest way
        String winding = "row 9 9 9 9 9 9 9 9;row 0 0 0 0 0 0 0 9;row 9 9 9 9 9 9 9 9;row 9 0 0 0 0 0 0 0;";
        PuddleCity maze = Check.city(winding + winding + "boots a 0 1;");
        for (int cell = 0; cell < 64; cell++) {
            if (maze.heightOf(cell) == 0) {
                maze.burst(cell, 5, 1);
            }
        }
        maze.passMinutes(1);
        Check.same("along all rows", maze.dryWay(0, 48), 34);
        Check.same("to the end of it", maze.dryWay(0, 56), 35);
        Check.same("not into the water", maze.dryWay(0, 57), NONE);
    }

    private static void forecasts() {
        waterAfter();
        minutesUntilDry();
        drainedAfter();
        nothingChanges();
    }

    private static void waterAfter() {
        Check.sentence("Promise 41", "number of minutes, 0 to 100");
        PuddleCity city = Check.city("row 0 0;row 0 0;rain 1;");
        city.passMinutes(1);
        Check.same("after 0", city.waterAfter(0, 0), 1);
        Check.same("after 1", city.waterAfter(0, 1), 2);
        Check.same("after 9, with evaporation", city.waterAfter(0, 9), 9);
        Check.same("after 100", city.waterAfter(3, 100), 91);
        Check.sentence("Promise 41", "IllegalArgumentException if minutes is outside its range");
        for (int wrong : new int[] {-1, 101, 102, LEAST, MOST}) {
            Check.noArgument("minutes " + wrong, () -> city.waterAfter(0, wrong));
            Check.noIndex("the cell is named first", () -> city.waterAfter(4, wrong));
            Check.noIndex("the cell is named first", () -> city.waterAfter(-1, wrong));
        }
    }

    private static void minutesUntilDry() {
        Check.sentence("Promise 42", "0 if it is dry now");
        PuddleCity city = Check.city(PIT + "rain 9;");
        Check.same("dry, though it will rain", city.minutesUntilDry(0), 0);
        Check.sentence("Promise 42", "Returns the least number of minutes");
        PuddleCity gutter = Check.city(PIT + "gutter 0 1;");
        gutter.burst(0, 4, 1);
        gutter.passMinutes(1);
        for (int left = 3; left >= 0; left--) {
            Check.same("with " + left, gutter.minutesUntilDry(0), left);
            gutter.passMinutes(1);
        }
        PuddleCity spell = Check.city(PIT + "gutter 0 9;");
        spell.burst(0, 10, 2);
        spell.passMinutes(1);
        Check.same("a unit that the hydrant raises to 2 and the gutter drains later", spell.minutesUntilDry(0), 2);
        untilDry(1, 1, 9);
        untilDry(9, 1, 1);
        untilDry(10, 1, 10);
        untilDry(11, 2, 19);
        Check.sentence("Promise 42", "or NONE if that number would exceed 200");
        untilDry(12, 20, 198);
        untilDry(11, 20, 199);
        untilDry(10, 20, 200);
        untilDry(20, 20, 200);
        untilDry(9, 21, NONE);
        untilDry(19, 21, NONE);
        untilDry(8, 21, NONE);
        PuddleCity rainy = Check.city("row 0 0;row 0 0;rain 1;");
        rainy.passMinutes(1);
        Check.same("it rains for ever", rainy.minutesUntilDry(0), NONE);
    }

    /** A flat city in which the same water is on each cell at a minute: it goes at each tenth minute. */
    private static void untilDry(int minute, int units, int due) {
        PuddleCity city = Check.city("row 0 0;row 0 0;");
        if (minute > 1) {
            city.passMinutes(minute - 1);
        }
        int given = minute % 10 == 0 ? units + 1 : units;
        for (int cell = 0; cell < 4; cell++) {
            city.burst(cell, Math.min(given, 20), 1);
        }
        city.setRain(Math.max(given - 20, 0));
        city.passMinutes(1);
        city.setRain(0);
        for (int cell = 0; cell < 4; cell++) {
            Check.same("units at minute " + minute, city.waterOn(cell), units);
            Check.same(units + " units at minute " + minute, city.minutesUntilDry(cell), due);
        }
    }

    private static void drainedAfter() {
        Check.sentence("Promise 43", "number of minutes, 0 to 100");
        PuddleCity city = Check.city("row 0 0;row 0 0;rain 2;gutter 0 1;gutter 3 1;");
        Check.same("after 0 of none", city.drainedAfter(0), 0);
        city.passMinutes(3);
        Check.same("after 0", city.drainedAfter(0), 6);
        Check.same("after 1", city.drainedAfter(1), 8);
        Check.same("after 100", city.drainedAfter(100), 206);
        Check.sentence("Promise 43", "IllegalArgumentException if minutes is outside its range");
        for (int wrong : new int[] {-1, 101, 102, LEAST, MOST}) {
            Check.noArgument("minutes " + wrong, () -> city.drainedAfter(wrong));
        }
    }

    private static void nothingChanges() {
        Check.sentence("Changes",
                "A forecast never changes anything, and the limit of the minute does not apply to it");
        PuddleCity city = Check.city("row 0 0;row 0 0;gutter 0 1;rain 1;boots a 3 1;");
        toTheLastMinute(city);
        city.setRain(1);
        city.saveState();
        city.writeRow(0);
        Check.feed(city, "rain 2;");
        String before = Check.picture(city);
        Check.same("at minute 999", city.minute(), 999);
        Check.same("the water of now", city.waterAfter(3, 0), city.waterOn(3));
        Check.yes("the water 100 minutes behind the last", city.waterAfter(3, 100) != city.waterOn(3));
        Check.same("drained 100 minutes behind the last", city.drainedAfter(100), city.drained() + 100);
        Check.same("200 minutes behind the last", city.minutesUntilDry(3), NONE);
        Check.same("nothing has changed", Check.picture(city), before);
        Check.same("neither the output", Check.output(city).length(), 2);
        Check.same("nor the buffer", city.runScript(), 1);
        Check.same("nor the changes", city.undo(), 7);
        Check.same("nor what is undone", Check.picture(city), before);
        Check.same("nor the saved state", city.restoreState(), 999);
        Check.same("which is the same", Check.picture(city), before);
        PuddleCity dry = Check.city("row 0 0;row 0 0;boots a 0 1;rain 9;");
        dry.waterAfter(0, 100);
        Check.no("boots stay dry in a forecast", dry.isWet(0));
    }

    private static void means() {
        Check.sentence("Promise 44",
                "Returns the water on all cells divided by the number of cells, both converted to double");
        PuddleCity dry = Check.city(TWO);
        Check.same("all cells dry", dry.meanWater(), 0.0);
        PuddleCity third = Check.city("row 0 9 9;row 9 9 9;row 9 9 9;");
        third.burst(0, 1, 1);
        third.passMinutes(1);
        Check.same("less than a unit", third.meanWater(), 1.0 / 9.0);
        PuddleCity full = Check.city(largest() + "rain 9;");
        full.passMinutes(1);
        Check.same("all cells full", full.meanWater(), 9.0);
        Check.sentence("Promise 45",
                "Returns the number of cells that are not dry divided by the number of cells, both "
                + "converted to float");
        Check.same("no cell", dry.wetPart(), 0.0f);
        Check.same("one of nine", third.wetPart(), 1.0f / 9.0f);
        Check.same("all cells", full.wetPart(), 1.0f);
        PuddleCity all = Check.city("row 9 9 9;row 9 9 0;rain 1;");
        all.passMinutes(1);
        Check.same("two gave their unit to the last", Check.waters(all), "1 1 0 1 0 3");
        Check.same("four of six", all.wetPart(), 4.0f / 6.0f);
    }

    private static void consistent() {
        Check.sentence("Promise 46", "Returns true (always)");
        PuddleCity city = Check.city(PIT + "boots a 0 1;gutter 0 1;");
        Check.yes("a dry city", city.isConsistent());
        city.dropLeaves(0, 9);
        city.dropLeaves(3, 9);
        city.burst(0, 20, 60);
        city.burst(3, 20, 1);
        Check.yes("leaves and hydrants", city.isConsistent());
        city.passMinutes(60);
        Check.yes("water that flowed, was drained and evaporated", city.isConsistent());
        city.splash(0);
        city.walk(0, PuddleCity.EAST);
        Check.yes("a splash and a walk", city.isConsistent());
        city.sweep(0);
        city.burst(1, 1, 1);
        city.shut(1);
        Check.yes("swept leaves", city.isConsistent());
        city.saveState();
        for (int i = 0; i < 7; i++) {
            city.undo();
            Check.yes("undone", city.isConsistent());
        }
        city.restoreState();
        Check.yes("restored", city.isConsistent());
        Check.feed(city, TWO);
        city.loadSetup();
        Check.yes("another city", city.isConsistent());
    }
}
