/** Promises 34 to 40, 52 and 53: boots, their ways, walks and splashes. */
final class BootsTest {
    private static final int NONE = PuddleCity.NONE;

    public static void main(String[] args) {
        names();
        noSuchBoots(new PuddleCity(), 2);
        noSuchBoots(Check.city("row 1 1;row 1 1;"), 0);
        noSuchBoots(Check.city("row 1 1;row 1 1;boots a 0 1;boots b 0 1;boots c 0 1;boots d 0 1;"), 4);
        walks();
        becomesWetWhenWalking();
        splashes();
        splashWetsNobody();
        dryWays();
        Check.finish();
    }

    private static void names() {
        PuddleCity city = Check.city("row 1 1;row 1 1;boots z 3 9;boots abcdef 0 1;");
        Check.same("34: bootsCount", city.bootsCount(), 2);
        Check.same("35: the only letter", city.nameByte(0, 0), 'z');
        Check.same("35: behind it", city.nameByte(0, 1), NONE);
        Check.same("35: first letter", city.nameByte(1, 0), 'a');
        Check.same("35: sixth letter", city.nameByte(1, 5), 'f');
        Check.same("35: seventh letter", city.nameByte(1, 6), NONE);
        Check.same("35: index -1", city.nameByte(1, -1), NONE);
        Check.same("35: least index", city.nameByte(1, Integer.MIN_VALUE), NONE);
        Check.same("35: greatest index", city.nameByte(1, Integer.MAX_VALUE), NONE);
        Check.same("36: placeOf", city.placeOf(0), 3);
        Check.same("37: bootHeight", city.bootHeight(0), 9);
        Check.no("38: isWet", city.isWet(0));
        Check.same("39: splashesOf", city.splashesOf(0), 0);
        // a shorter name behind a longer one must not show the old letters
        Check.feed(city, "row 1 1;row 1 1;boots ab 3 9;boots c 0 1;");
        city.loadSetup();
        Check.feed(city, "row 1 1;row 1 1;boots x 3 9;boots yz 0 1;");
        city.loadSetup();
        Check.same("35: new name 0", Check.name(city, 0), "x");
        Check.same("35: new name 1", Check.name(city, 1), "yz");
    }

    private static void noSuchBoots(PuddleCity city, int count) {
        Check.same("34: bootsCount", city.bootsCount(), count);
        for (int wrong : new int[] {-1, count, count + 1, 4, 64, Integer.MIN_VALUE, Integer.MAX_VALUE}) {
            Check.noIndex("35: " + wrong, () -> city.nameByte(wrong, 0));
            Check.noIndex("35: " + wrong, () -> city.nameByte(wrong, -1));
            Check.noIndex("36: " + wrong, () -> city.placeOf(wrong));
            Check.noIndex("37: " + wrong, () -> city.bootHeight(wrong));
            Check.noIndex("38: " + wrong, () -> city.isWet(wrong));
            Check.noIndex("39: " + wrong, () -> city.splashesOf(wrong));
            Check.noIndex("40: " + wrong, () -> city.dryWay(wrong, 0));
            Check.noIndex("40: " + wrong, () -> city.dryWay(wrong, -1));
            Check.noIndex("52: " + wrong, () -> city.walk(wrong, 0));
            Check.noIndex("52: the boots come first", () -> city.walk(wrong, 4));
            Check.noIndex("53: " + wrong, () -> city.splash(wrong));
        }
        Check.noElement("52: no change by what was refused", city::undo);
    }

    private static void walks() {
        PuddleCity city = Check.city("row 1 1 1;row 1 1 1;row 1 1 1;boots a 4 1;boots b 0 1;boots c 8 1;");
        Check.same("52: NORTH", city.walk(0, PuddleCity.NORTH), 1);
        Check.same("36: placeOf", city.placeOf(0), 1);
        Check.same("52: EAST", city.walk(0, PuddleCity.EAST), 2);
        Check.same("52: SOUTH", city.walk(0, PuddleCity.SOUTH), 5);
        Check.same("52: WEST", city.walk(0, PuddleCity.WEST), 4);
        Check.same("52: onto another pair's cell", city.walk(0, PuddleCity.WEST), 3);
        Check.same("52: onto another pair's cell", city.walk(0, PuddleCity.NORTH), 0);
        Check.same("36: the other pair stays", city.placeOf(1), 0);
        String before = Check.picture(city);
        Check.noState("52: NORTH of 0", () -> city.walk(1, PuddleCity.NORTH));
        Check.noState("52: WEST of 0", () -> city.walk(1, PuddleCity.WEST));
        Check.noState("52: EAST of 8", () -> city.walk(2, PuddleCity.EAST));
        Check.noState("52: SOUTH of 8", () -> city.walk(2, PuddleCity.SOUTH));
        for (int wrong : new int[] {-1, 4, Integer.MIN_VALUE, Integer.MAX_VALUE}) {
            Check.noArgument("52: direction " + wrong, () -> city.walk(1, wrong));
        }
        Check.same("52: nothing has changed", Check.picture(city), before);
        Check.same("55: six changes, none by what was refused", city.undo(), 5);
        Check.same("55: a walk is undone", city.placeOf(0), 3);
    }

    private static void becomesWetWhenWalking() {
        PuddleCity city = Check.city("row 9 0;row 9 9;boots a 0 4;boots b 0 5;boots c 3 1;");
        city.burst(1, 5, 1);
        city.passMinutes(1);
        Check.same("13: a pit of 5", Check.waters(city), "0 5 0 0");
        city.walk(0, PuddleCity.EAST);
        city.walk(1, PuddleCity.EAST);
        Check.yes("38: 5 units, height 4", city.isWet(0));
        Check.no("38: 5 units, height 5", city.isWet(1));
        city.walk(0, PuddleCity.WEST);
        Check.yes("38: still wet", city.isWet(0));
        city.undo();
        city.undo();
        Check.yes("38: wet by the walk before", city.isWet(0));
        city.undo();
        Check.no("38: undone", city.isWet(0));
    }

    private static void splashes() {
        PuddleCity city = Check.city("row 9 9 9;row 9 0 9;row 9 9 9;boots a 4 9;boots b 0 9;");
        Check.noState("53: a dry cell", () -> city.splash(0));
        Check.same("39: none yet", city.splashesOf(0), 0);
        Check.noElement("53: no change", city::undo);
        city.burst(4, 4, 1);
        city.passMinutes(1);
        Check.same("53: a fifth of 4", city.splash(0), 0);
        Check.same("39: it counts", city.splashesOf(0), 1);
        Check.same("13: the water stays", Check.waters(city), "0 0 0 0 4 0 0 0 0");
        city.burst(4, 1, 1);
        city.passMinutes(1);
        Check.same("53: a fifth of 5 to four", city.splash(0), 4);
        Check.same("13: one unit is left", Check.waters(city), "0 1 0 1 1 1 0 1 0");
        city.undo();
        city.burst(4, 4, 1);
        city.passMinutes(1);
        Check.same("53: a fifth of 9, rounded down", city.splash(0), 4);
        Check.same("13: five are left", Check.waters(city), "0 1 0 1 5 1 0 1 0");
        Check.same("39: two", city.splashesOf(0), 2);
        Check.same("39: none of the others", city.splashesOf(1), 0);
        Check.same("29: the water is all there", city.waterTotal(), 9);
        Check.noState("53: another dry cell", () -> city.splash(1));

        PuddleCity corner = Check.city("row 0 9 9;row 9 9 9;boots a 0 9;boots b 1 9;");
        corner.burst(0, 13, 1);
        corner.passMinutes(1);
        Check.same("13: 13 in the corner, of which 2 overflowed", Check.waters(corner), "11 1 1 0 0 0");
        Check.same("53: a fifth of 11 to two", corner.splash(0), 4);
        Check.same("13: each neighbour got 2", Check.waters(corner), "7 3 1 2 0 0");
        Check.same("53: on a wet edge", corner.splash(1), 0);
        Check.yes("46: isConsistent", corner.isConsistent());
        PuddleCity first = Check.city("row 9 0 9;row 9 9 9;boots a 1 9;");
        first.burst(1, 10, 1);
        first.passMinutes(1);
        Check.same("53: a fifth of 10 to three", first.splash(0), 6);
        Check.same("13: cell 0 got its fifth, too", Check.waters(first), "2 4 2 0 2 0");
    }

    private static void splashWetsNobody() {
        PuddleCity city = Check.city("row 0 5 9;row 9 9 9;boots a 0 9;boots b 1 1;");
        city.burst(0, 14, 1);
        city.passMinutes(1);
        Check.same("13: 14 beside 5 gives 4, and these give 0", Check.waters(city), "10 4 0 0 0 0");
        city = Check.city("row 0 9;row 9 9;boots a 0 9;boots b 1 1;");
        city.burst(0, 10, 1);
        city.passMinutes(1);
        Check.same("13: ten in the corner", Check.waters(city), "10 0 0 0");
        Check.same("53: thrown", city.splash(0), 4);
        Check.same("13: two beside", city.waterOn(1), 2);
        Check.no("38: boots become wet by minutes and walks, not by splashes", city.isWet(1));
    }

    private static void dryWays() {
        PuddleCity city = Check.city("row 9 0 9 9;row 9 0 9 0;row 9 9 9 9;boots a 0 1;boots b 1 3;boots c 3 9;");
        Check.same("40: own cell", city.dryWay(0, 0), 0);
        Check.same("40: beside", city.dryWay(0, 1), 1);
        Check.same("40: all over the city", city.dryWay(0, 11), 5);
        Check.same("40: from the far side", city.dryWay(2, 8), 5);
        city.burst(1, 8, 1);
        city.passMinutes(1);
        Check.same("13: two pits of 4", Check.waters(city), "0 4 0 0 0 4 0 0 0 0 0 0");
        Check.same("40: round the pits", city.dryWay(0, 2), 6);
        Check.same("40: to a deep cell", city.dryWay(0, 5), NONE);
        Check.same("40: with high boots", city.dryWay(2, 0), 3);
        Check.same("40: b stands in 4 with 3", city.dryWay(1, 1), 0);
        Check.same("40: and can step out", city.dryWay(1, 0), 1);
        Check.same("40: but not through the other pit", city.dryWay(1, 5), NONE);
        Check.same("40: to where both ways lead", city.dryWay(1, 9), 4);
        city.burst(7, 1, 1);
        city.passMinutes(1);
        Check.same("40: as high as the boots", city.dryWay(0, 7), 6);
        city.burst(7, 1, 1);
        city.passMinutes(1);
        Check.same("40: higher than the boots", city.dryWay(0, 7), NONE);
        Check.same("40: round this pit, too", city.dryWay(0, 3), 7);
        city = Check.city("row 9 0 9;row 9 0 9;boots a 0 1;");
        city.burst(1, 8, 1);
        city.passMinutes(1);
        Check.same("40: no way round", city.dryWay(0, 2), NONE);
        Check.same("40: below", city.dryWay(0, 3), 1);
        PuddleCity last = city;
        for (int wrong : new int[] {-1, 6, 64, Integer.MIN_VALUE, Integer.MAX_VALUE}) {
            Check.noIndex("40: cell " + wrong, () -> last.dryWay(0, wrong));
        }
    }
}
