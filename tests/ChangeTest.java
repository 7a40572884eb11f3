/** Promises 47 to 51 and 55: the changes, and their undoing. */
final class ChangeTest {
    public static void main(String[] args) {
        setRain();
        burst();
        shut();
        dropLeaves();
        sweep();
        eachChangeIsUndone();
        atMostEight();
        undoLeavesTheRest();
        refusedCallsAreNoChanges();
        Check.finish();
    }

    private static void setRain() {
        PuddleCity city = new PuddleCity();
        Check.same("47: the rain before", city.setRain(9), 1);
        Check.same("47: the rain before", city.setRain(0), 9);
        Check.same("47: as it was", city.setRain(0), 0);
        Check.same("11: rain", city.rain(), 0);
        for (int wrong : new int[] {-1, 10, Integer.MIN_VALUE, Integer.MAX_VALUE}) {
            Check.noArgument("47: rate " + wrong, () -> city.setRain(wrong));
        }
        Check.same("47: rain after refusals", city.rain(), 0);
        Check.same("55: a change that left all as it was", city.undo(), 2);
        Check.same("55: rain", city.rain(), 0);
        Check.same("55: undo", city.undo(), 1);
        Check.same("55: rain", city.rain(), 9);
        Check.same("55: undo", city.undo(), 0);
        Check.same("55: rain", city.rain(), 1);
        Check.noElement("55: nothing to undo", city::undo);
        Check.same("55: rain stays", city.rain(), 1);
    }

    private static void burst() {
        PuddleCity city = new PuddleCity();
        Check.same("48: the first", city.burst(0, 1, 1), 1);
        Check.same("48: the second", city.burst(8, 20, 60), 2);
        Check.same("48: the third", city.burst(4, 10, 30), 3);
        Check.same("19: rate of 8", city.hydrantRate(8), 20);
        Check.same("20: minutes of 8", city.hydrantMinutes(8), 60);
        Check.same("19: rate of 4", city.hydrantRate(4), 10);
        Check.same("20: minutes of 4", city.hydrantMinutes(4), 30);
        String before = Check.picture(city);
        Check.noState("48: open already", () -> city.burst(8, 1, 1));
        for (int wrong : new int[] {0, 21, -1, Integer.MIN_VALUE, Integer.MAX_VALUE}) {
            Check.noArgument("48: rate " + wrong, () -> city.burst(1, wrong, 1));
            Check.noArgument("48: the rate comes before the open hydrant", () -> city.burst(8, wrong, 1));
            Check.noIndex("48: the cell comes before the rate", () -> city.burst(9, wrong, 1));
        }
        for (int wrong : new int[] {0, 61, -1, Integer.MIN_VALUE, Integer.MAX_VALUE}) {
            Check.noArgument("48: minutes " + wrong, () -> city.burst(1, 1, wrong));
            Check.noArgument("48: the minutes come before the open hydrant", () -> city.burst(8, 1, wrong));
            Check.noIndex("48: the cell comes before the minutes", () -> city.burst(-1, 1, wrong));
        }
        for (int wrong : new int[] {-1, 9, 64, Integer.MIN_VALUE, Integer.MAX_VALUE}) {
            Check.noIndex("48: cell " + wrong, () -> city.burst(wrong, 1, 1));
        }
        Check.same("48: nothing has changed", Check.picture(city), before);
        city.passMinutes(1);
        Check.same("48: 0 is shut now and opens again", city.burst(0, 2, 2), 3);
        Check.same("48: and one more", city.burst(1, 2, 2), 4);
    }

    private static void shut() {
        PuddleCity city = new PuddleCity();
        Check.noState("49: none open", () -> city.shut(0));
        city.burst(3, 5, 60);
        city.burst(4, 6, 2);
        city.passMinutes(1);
        Check.same("49: the minutes left", city.shut(3), 59);
        Check.same("19: rate", city.hydrantRate(3), 0);
        Check.same("20: minutes", city.hydrantMinutes(3), 0);
        Check.noState("49: shut already", () -> city.shut(3));
        Check.same("20: the other one", city.hydrantMinutes(4), 1);
        city.passMinutes(1);
        Check.noState("49: shut by itself", () -> city.shut(4));
        Check.same("31: 5 and twice 6", city.fromHydrants(), 17);
        for (int wrong : new int[] {-1, 9, 64, Integer.MIN_VALUE, Integer.MAX_VALUE}) {
            Check.noIndex("49: cell " + wrong, () -> city.shut(wrong));
        }
        city.undo();
        city.undo();
        Check.same("55: open again", city.hydrantMinutes(3), 59);
        Check.same("55: with its rate", city.hydrantRate(3), 5);
        Check.same("49: and shut again", city.shut(3), 59);
        Check.same("49: opened and shut at once", city.burst(8, 1, 7), 2);
        Check.same("49: all minutes left", city.shut(8), 7);
    }

    private static void dropLeaves() {
        PuddleCity city = new PuddleCity();
        Check.same("50: one", city.dropLeaves(8, 1), 1);
        Check.same("50: nine more", city.dropLeaves(8, 9), 10);
        Check.same("50: nine more", city.dropLeaves(8, 9), 19);
        Check.same("50: elsewhere", city.dropLeaves(0, 2), 2);
        for (int wrong : new int[] {0, 10, -1, Integer.MIN_VALUE, Integer.MAX_VALUE}) {
            Check.noArgument("50: count " + wrong, () -> city.dropLeaves(8, wrong));
            Check.noIndex("50: the cell comes first", () -> city.dropLeaves(9, wrong));
        }
        for (int wrong : new int[] {-1, 9, 64, Integer.MIN_VALUE, Integer.MAX_VALUE}) {
            Check.noIndex("50: cell " + wrong, () -> city.dropLeaves(wrong, 1));
        }
        Check.same("15: leaves", Check.leaves(city), "2 0 0 0 0 0 0 0 19");
        Check.yes("46: isConsistent", city.isConsistent());
        Check.same("55: undo", city.undo(), 3);
        Check.same("55: leaves", Check.leaves(city), "0 0 0 0 0 0 0 0 19");
        Check.yes("46: isConsistent", city.isConsistent());
    }

    private static void sweep() {
        PuddleCity city = new PuddleCity();
        Check.same("51: none", city.sweep(0), 0);
        city.dropLeaves(8, 9);
        city.dropLeaves(8, 8);
        Check.yes("18: plugged", city.isPlugged(8));
        Check.same("51: all", city.sweep(8), 17);
        Check.same("15: none left", city.leavesOn(8), 0);
        Check.no("18: open again", city.isPlugged(8));
        Check.same("51: none left", city.sweep(8), 0);
        Check.yes("46: isConsistent", city.isConsistent());
        for (int wrong : new int[] {-1, 9, 64, Integer.MIN_VALUE, Integer.MAX_VALUE}) {
            Check.noIndex("51: cell " + wrong, () -> city.sweep(wrong));
        }
        Check.same("55: a sweep of nothing is a change", city.undo(), 4);
        Check.same("55: a sweep", city.undo(), 3);
        Check.same("55: the leaves are back", city.leavesOn(8), 17);
        Check.yes("46: isConsistent", city.isConsistent());
    }

    private static void eachChangeIsUndone() {
        PuddleCity city = Check.city("row 9 0 1;row 3 9 0;gutter 5 2;rain 3;boots a 1 1;boots b 5 2;");
        city.dropLeaves(0, 9);
        city.burst(0, 9, 60);
        city.passMinutes(19);
        String[] pictures = new String[9];
        pictures[0] = Check.picture(city);
        city.setRain(5);
        pictures[1] = Check.picture(city);
        city.burst(1, 8, 12);
        pictures[2] = Check.picture(city);
        city.passMinutes(21);
        pictures[3] = Check.picture(city);
        city.shut(0);
        pictures[4] = Check.picture(city);
        city.splash(0);
        pictures[5] = Check.picture(city);
        city.walk(1, PuddleCity.NORTH);
        pictures[6] = Check.picture(city);
        city.sweep(firstWithLeaves(city));
        pictures[7] = Check.picture(city);
        Check.same("5: a script", Check.script(city, "pass 9;rain 0;leaves 0 1;"), 3);
        pictures[8] = Check.picture(city);
        for (int left = 7; left >= 0; left--) {
            Check.no("55: change " + left + " changes something", pictures[left].equals(pictures[left + 1]));
            Check.same("55: changes left", city.undo(), left);
            Check.same("55: as before change " + left, Check.picture(city), pictures[left]);
        }
        Check.noElement("55: eight were kept", city::undo);
        Check.same("55: as before", Check.picture(city), pictures[0]);
    }

    private static int firstWithLeaves(PuddleCity city) {
        int cell = 0;
        while (city.leavesOn(cell) == 0) {
            cell++;
        }
        return cell;
    }

    private static void atMostEight() {
        PuddleCity city = new PuddleCity();
        for (int i = 0; i < 21; i++) {
            city.dropLeaves(0, 1);
        }
        for (int left = 7; left >= 0; left--) {
            Check.same("55: left", city.undo(), left);
            Check.same("55: leaves", city.leavesOn(0), 13 + left);
        }
        Check.noElement("55: the oldest are dropped", city::undo);
        Check.same("55: leaves stay", city.leavesOn(0), 13);
        city.dropLeaves(0, 2);
        city.dropLeaves(0, 3);
        Check.same("55: one left", city.undo(), 1);
        city.dropLeaves(0, 4);
        Check.same("15: leaves", city.leavesOn(0), 19);
        Check.same("55: a change behind an undo", city.undo(), 1);
        Check.same("15: leaves", city.leavesOn(0), 15);
        Check.same("55: the first one", city.undo(), 0);
        Check.same("15: leaves", city.leavesOn(0), 13);
        Check.noElement("55: none left", city::undo);
    }

    private static void undoLeavesTheRest() {
        PuddleCity city = new PuddleCity();
        city.passMinutes(1);
        city.saveState();
        Check.feed(city, "oh");
        city.loadSetup();
        city.passMinutes(1);
        city.writeRow(1);
        String output = Check.output(city);
        city.appendInput(0x7261696e, 0x20333b20, 0x20202020, 0x20202020, 0x20202020);
        city.undo();
        city.undo();
        Check.same("55: minute", city.minute(), 0);
        Check.same("55: the error stays", city.errorCode(), PuddleCity.SYNTAX);
        Check.same("55: its offset stays", city.errorOffset(), 0);
        Check.same("55: the output stays", Check.output(city), output);
        Check.same("55: the buffer stays", city.runScript(), 1);
        Check.same("55: what it held", city.rain(), 3);
        Check.same("55: the saved state stays", city.restoreState(), 1);
    }

    private static void refusedCallsAreNoChanges() {
        PuddleCity city = new PuddleCity();
        Check.noState("49", () -> city.shut(0));
        Check.noState("53", () -> city.splash(0));
        Check.noState("52", () -> city.walk(0, PuddleCity.NORTH));
        Check.noArgument("50", () -> city.dropLeaves(0, 0));
        Check.noIndex("51", () -> city.sweep(9));
        Check.noArgument("48", () -> city.burst(0, 0, 0));
        Check.noArgument("47", () -> city.setRain(10));
        Check.noArgument("54", () -> city.passMinutes(0));
        city.heightOf(0);
        city.writeRow(0);
        city.saveState();
        city.puddleCount();
        city.dryWay(0, 8);
        city.isConsistent();
        Check.noElement("55: none of these is a change", city::undo);
    }
}
