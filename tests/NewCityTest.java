/** Promise 1: a new object. */
final class NewCityTest {
    private static final int[] HEIGHTS = {5, 4, 3, 6, 2, 1, 5, 4, 0};

    public static void main(String[] args) {
        PuddleCity city = new PuddleCity();
        Check.same("1: columnCount", city.columnCount(), 3);
        Check.same("1: rowCount", city.rowCount(), 3);
        Check.same("1: rain", city.rain(), 1);
        Check.same("1: minute", city.minute(), 0);
        for (int cell = 0; cell < HEIGHTS.length; cell++) {
            Check.same("1: heightOf " + cell, city.heightOf(cell), HEIGHTS[cell]);
            Check.same("1: gutterCapacity " + cell, city.gutterCapacity(cell), cell == 8 ? 2 : 0);
            Check.same("1: waterOn " + cell, city.waterOn(cell), 0);
            Check.same("1: leavesOn " + cell, city.leavesOn(cell), 0);
            Check.same("1: hydrantRate " + cell, city.hydrantRate(cell), 0);
            Check.same("1: hydrantMinutes " + cell, city.hydrantMinutes(cell), 0);
        }
        boots(city);
        Check.same("1: rained", city.rained(), 0);
        Check.same("1: fromHydrants", city.fromHydrants(), 0);
        Check.same("1: drained", city.drained(), 0);
        Check.same("1: evaporated", city.evaporated(), 0);
        Check.same("1: puddleCount", city.puddleCount(), 0);
        Check.same("1: errorCode", city.errorCode(), PuddleCity.NO_ERROR);
        Check.same("1: errorOffset", city.errorOffset(), PuddleCity.NONE);
        Check.same("1: outputByte", city.outputByte(0), PuddleCity.NONE);
        Check.yes("1: isConsistent", city.isConsistent());
        Check.noElement("1: undo", city::undo);
        Check.noElement("1: restoreState", city::restoreState);
        Check.no("1: the buffer is empty", city.truncateInput(1));
        Check.same("1: appendInput to the empty buffer", city.appendInput(0, 0, 0, 0, 0), 20);
        twoObjectsShareNothing();
        Check.finish();
    }

    private static void boots(PuddleCity city) {
        Check.same("1: bootsCount", city.bootsCount(), 2);
        Check.same("1: name 0", Check.name(city, 0), "ann");
        Check.same("1: name 1", Check.name(city, 1), "bob");
        Check.same("1: placeOf 0", city.placeOf(0), 0);
        Check.same("1: placeOf 1", city.placeOf(1), 4);
        Check.same("1: bootHeight 0", city.bootHeight(0), 2);
        Check.same("1: bootHeight 1", city.bootHeight(1), 1);
        for (int boots = 0; boots < 2; boots++) {
            Check.no("1: isWet " + boots, city.isWet(boots));
            Check.same("1: splashesOf " + boots, city.splashesOf(boots), 0);
        }
    }

    private static void twoObjectsShareNothing() {
        PuddleCity one = new PuddleCity();
        PuddleCity other = new PuddleCity();
        String before = Check.picture(other);
        one.passMinutes(20);
        one.saveState();
        one.writeRow(0);
        Check.feed(one, "row 1 1;row 1");
        one.loadSetup();
        Check.same("1: another object stays as it was", Check.picture(other), before);
        Check.same("1: another object's error", other.errorCode(), PuddleCity.NO_ERROR);
        Check.same("1: another object's output", other.outputByte(0), PuddleCity.NONE);
        Check.noElement("1: another object's undo", other::undo);
        Check.noElement("1: another object's restoreState", other::restoreState);
    }
}
