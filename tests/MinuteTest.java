/** Promise 54 and the passing of a minute, in its order. */
final class MinuteTest {
    public static void main(String[] args) {
        rainFallsBeforeWaterFlows();
        hydrantsGiveBeforeWaterFlows();
        cellsAreTreatedInTheirOrder();
        leavesGoWithTheWater();
        guttersDrainBehindTheFlow();
        evaporatesEveryTenMinutes();
        bootsBecomeWetAtTheEnd();
        answers();
        refusals();
        Check.finish();
    }

    private static void rainFallsBeforeWaterFlows() {
        PuddleCity city = Check.city("row 9 0;row 9 9;rain 2;");
        Check.same("54: drained without gutters", city.passMinutes(1), 0);
        // 0: 11 beside 2 gives its 2; 1: nothing is lower; 2: 11 beside 9 gives 1; 3: 11 beside 4 gives 2
        Check.same("54: water", Check.waters(city), "1 6 1 0");
        Check.same("30: rained", city.rained(), 8);
    }

    private static void hydrantsGiveBeforeWaterFlows() {
        PuddleCity city = Check.city("row 9 0;row 9 9;");
        city.burst(0, 5, 1);
        city.passMinutes(1);
        Check.same("54: the burst water flows at once", Check.waters(city), "0 5 0 0");
        Check.same("20: it is shut", city.hydrantMinutes(0), 0);
        city.burst(0, 5, 60);
        city.passMinutes(59);
        Check.same("20: a minute left", city.hydrantMinutes(0), 1);
        city.passMinutes(2);
        Check.same("31: 60 minutes of 5, and 5", city.fromHydrants(), 305);
        Check.yes("46: isConsistent", city.isConsistent());
    }

    private static void cellsAreTreatedInTheirOrder() {
        PuddleCity down = Check.city("row 9 6 3;row 9 9 9;");
        down.burst(0, 1, 1);
        down.passMinutes(1);
        Check.same("54: one unit goes down the whole row", Check.waters(down), "0 0 1 0 0 0");
        PuddleCity up = Check.city("row 3 6 9;row 9 9 9;");
        up.burst(2, 1, 1);
        up.passMinutes(1);
        Check.same("54: one step against the order", Check.waters(up), "0 1 0 0 0 0");
        up.passMinutes(1);
        Check.same("54: and one more", Check.waters(up), "1 0 0 0 0 0");
    }

    private static void leavesGoWithTheWater() {
        PuddleCity city = Check.city("row 9 6 3;row 9 9 9;");
        city.dropLeaves(0, 3);
        city.passMinutes(1);
        Check.same("54: no flow, no leaf goes", Check.leaves(city), "3 0 0 0 0 0");
        city.burst(0, 1, 1);
        city.passMinutes(1);
        Check.same("54: one leaf goes with the unit", Check.leaves(city), "2 0 1 0 0 0");
        city.burst(0, 20, 1);
        city.passMinutes(1);
        Check.same("54: one leaf goes with many units", Check.leaves(city), "1 0 2 0 0 0");

        city = Check.city("row 9 6 3;row 9 9 9;gutter 1 9;");
        city.dropLeaves(0, 2);
        city.dropLeaves(1, 4);
        city.burst(0, 8, 1);
        city.passMinutes(1);
        Check.same("54: a gutter keeps the leaves", Check.leaves(city), "1 5 0 0 0 0");
        // 8 flow from 0 (17 - 6 = 11, half is 5): 5; 6 + 5 beside 3 gives 4; the gutter drains 9 - 5
        Check.same("54: the water goes on", Check.waters(city), "3 0 4 0 0 0");
        Check.same("32: drained by what the leaves leave", city.drained(), 1);
        Check.yes("46: isConsistent", city.isConsistent());
    }

    private static void guttersDrainBehindTheFlow() {
        PuddleCity city = Check.city("row 9 0;row 9 9;gutter 0 9;gutter 1 4;");
        city.burst(0, 5, 1);
        Check.same("54: drained behind the flow", city.passMinutes(1), 4);
        Check.same("54: the gutter of 0 came too late", Check.waters(city), "0 1 0 0");
        Check.same("54: not more than the water", city.passMinutes(1), 1);
        Check.same("32: drained", city.drained(), 5);
        Check.same("54: dry", Check.waters(city), "0 0 0 0");
        city.dropLeaves(1, 4);
        city.burst(1, 5, 1);
        Check.same("54: plugged", city.passMinutes(1), 0);
        Check.same("54: nothing drained", city.waterOn(1), 5);
    }

    private static void evaporatesEveryTenMinutes() {
        PuddleCity city = Check.city("row 0 0;row 0 0;rain 1;gutter 0 9;gutter 1 9;gutter 2 9;");
        city.passMinutes(9);
        Check.same("33: not before minute 10", city.evaporated(), 0);
        city.passMinutes(1);
        Check.same("54: drained before anything evaporates", city.waterOn(0), 0);
        city = Check.city("row 0 0;row 0 0;rain 1;");
        city.passMinutes(10);
        Check.same("33: one unit of each cell", city.evaporated(), 4);
        Check.same("54: water at minute 10", Check.waters(city), "9 9 9 9");
        city.passMinutes(9);
        Check.same("33: not at minute 19", city.evaporated(), 4);
        city.passMinutes(1);
        Check.same("33: at minute 20", city.evaporated(), 8);
        city = Check.city("row 0 0;row 0 0;");
        city.burst(0, 1, 1);
        city.passMinutes(9);
        Check.same("54: one unit", Check.waters(city), "1 0 0 0");
        city.passMinutes(1);
        Check.same("33: only from cells that are not dry", city.evaporated(), 1);
        Check.same("54: never below 0", Check.waters(city), "0 0 0 0");
    }

    private static void bootsBecomeWetAtTheEnd() {
        PuddleCity city = Check.city("row 0 0;row 0 0;rain 1;boots a 0 8;boots b 1 9;boots c 2 1;");
        city.passMinutes(1);
        Check.no("38: water as high as the boots", city.isWet(2));
        city.passMinutes(1);
        Check.yes("38: water higher than the boots", city.isWet(2));
        city.passMinutes(6);
        Check.no("38: 8 units, height 8", city.isWet(0));
        city.passMinutes(1);
        Check.yes("38: 9 units, height 8", city.isWet(0));
        city.passMinutes(1);
        Check.no("38: 10 units, of which 1 evaporated, height 9", city.isWet(1));
        city.passMinutes(1);
        Check.yes("38: 10 units, height 9", city.isWet(1));
        city = Check.city("row 0 0;row 0 0;rain 9;gutter 0 8;gutter 1 9;gutter 2 9;gutter 3 9;boots a 0 1;");
        city.passMinutes(1);
        Check.same("54: one unit is left", city.waterOn(0), 1);
        Check.no("38: only at the end of the minute", city.isWet(0));
        city.burst(0, 20, 1);
        city.passMinutes(1);
        Check.yes("38: now it is", city.isWet(0));
        city.setRain(0);
        city.passMinutes(5);
        Check.same("54: dry again", city.waterOn(0), 0);
        Check.yes("38: once wet, always wet", city.isWet(0));
    }

    private static void answers() {
        PuddleCity city = Check.city("row 0 0;row 0 0;rain 3;gutter 3 2;");
        Check.same("54: 60 minutes of 2", city.passMinutes(60), 120);
        Check.same("54: only these minutes", city.passMinutes(3), 6);
        Check.same("32: drained in all", city.drained(), 126);
        Check.same("8: minute", city.minute(), 63);
        PuddleCity singly = Check.city("row 0 0;row 0 0;rain 3;gutter 3 2;");
        for (int i = 0; i < 63; i++) {
            singly.passMinutes(1);
        }
        Check.same("54: the same minute by minute", Check.picture(singly), Check.picture(city));
    }

    private static void refusals() {
        PuddleCity city = new PuddleCity();
        String before = Check.picture(city);
        for (int wrong : new int[] {0, 61, -1, 999, Integer.MIN_VALUE, Integer.MAX_VALUE}) {
            Check.noArgument("54: minutes " + wrong, () -> city.passMinutes(wrong));
        }
        Check.same("54: nothing happened", Check.picture(city), before);
        Check.noElement("54: and no change was made", city::undo);
        for (int i = 0; i < 16; i++) {
            city.passMinutes(60);
        }
        Check.noState("54: 960 and 40", () -> city.passMinutes(40));
        Check.same("54: the minute stays", city.minute(), 960);
        city.passMinutes(39);
        Check.same("54: 999 is allowed", city.minute(), 999);
        Check.noState("54: 999 and 1", () -> city.passMinutes(1));
        Check.noState("54: 999 and 60", () -> city.passMinutes(60));
        Check.noArgument("54: the argument comes first", () -> city.passMinutes(0));
        Check.noArgument("54: the argument comes first", () -> city.passMinutes(61));
        Check.same("54: still 999", city.minute(), 999);
        Check.same("55: only changes that succeeded", city.undo(), 7);
        Check.same("55: the last pass is undone", city.minute(), 960);
    }
}
