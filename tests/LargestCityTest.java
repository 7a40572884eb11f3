/** The largest city, 8 times 8 with 4 pairs of boots: every call at the end of every row of numbers. */
final class LargestCityTest {
    public static void main(String[] args) {
        StringBuilder setup = new StringBuilder();
        for (int row = 0; row < 8; row++) {
            setup.append("row 0 0 0 0 0 0 0 0;");
        }
        PuddleCity city = Check.city(setup + "gutter 63 9;rain 2;boots a 63 9;boots b 0 1;boots cc 7 1;"
                + "boots dddddd 56 1;");
        Check.same("54: drained from the last cell", city.passMinutes(1), 2);
        Check.same("13: water of the last cell", city.waterOn(63), 0);
        Check.same("29: waterTotal", city.waterTotal(), 126);
        Check.same("30: rained", city.rained(), 128);
        Check.same("28: deepestCell", city.deepestCell(), 0);
        Check.same("44: meanWater", city.meanWater(), 126.0 / 64.0);
        Check.same("45: wetPart", city.wetPart(), 63.0f / 64.0f);
        Check.yes("46: isConsistent", city.isConsistent());
        Check.same("24: puddleCount", city.puddleCount(), 1);
        Check.same("26: puddleSize", city.puddleSize(0), 63);
        Check.same("40: from corner to corner", city.dryWay(0, 0), 14);
        Check.same("40: too deep", city.dryWay(1, 63), PuddleCity.NONE);
        Check.no("38: dry on the gutter", city.isWet(0));
        Check.yes("38: wet", city.isWet(3));
        Check.same("48: hydrants", city.burst(63, 20, 9), 1);
        for (int cell = 0; cell < 63; cell++) {
            Check.same("48: hydrants", city.burst(cell, 1, 1), cell + 2);
        }
        city.setRain(0);
        city.passMinutes(9);
        Check.same("31: fromHydrants", city.fromHydrants(), 180 + 63);
        Check.yes("46: isConsistent", city.isConsistent());
        Check.same("23: neighbour NORTH", city.neighbour(63, PuddleCity.NORTH), 55);
        Check.same("23: neighbour EAST", city.neighbour(63, PuddleCity.EAST), PuddleCity.NONE);
        Check.same("23: neighbour SOUTH", city.neighbour(63, PuddleCity.SOUTH), PuddleCity.NONE);
        Check.same("23: neighbour WEST", city.neighbour(63, PuddleCity.WEST), 62);
        Check.same("50: dropLeaves", city.dropLeaves(63, 9), 9);
        Check.yes("18: isPlugged", city.isPlugged(63));
        Check.same("56: the last row", city.writeRow(7), 9);
        Check.same("57: its last byte", city.outputByte(8), '%');
        Check.noIndex("56: no ninth row", () -> city.writeRow(8));
        Check.noIndex("12: no cell 64", () -> city.heightOf(64));
        Check.same("5: a script", Check.script(city, "sweep 63;walk dddddd 1;leaves 63 1;pass 9;"), 4);
        Check.same("36: placeOf", city.placeOf(3), 57);
        Check.same("41: waterAfter", city.waterAfter(63, 0), city.waterOn(63));
        Check.yes("46: isConsistent", city.isConsistent());
        Check.finish();
    }
}
