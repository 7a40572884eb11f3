/** Promises 4, 6 and 7: setups, good and bad. */
final class SetupTest {
    private static final int SYNTAX = PuddleCity.SYNTAX;
    private static final int RANGE = PuddleCity.OUT_OF_RANGE;
    private static final int NAME = PuddleCity.BAD_NAME;
    private static final int MANY = PuddleCity.TOO_MANY;
    private static final int FEW = PuddleCity.TOO_FEW;
    private static final String TWO = "row 1 1;row 1 1;";

    public static void main(String[] args) {
        goodSetups();
        replacesEverything();
        badRows();
        badStatements();
        badTokens();
        badNames();
        tooMany();
        badSetupLeavesAll();
        nothingOfEarlierSetups();
        Check.finish();
    }

    private static void goodSetups() {
        Texts.goodSetup("row 0 0;row 0 0;", 4);
        Texts.goodSetup("row 0 1 2 3 4 5 6 7;row 7 6 5 4 3 2 1 9;", 16);
        Texts.goodSetup(Texts.repeated("row 9 9;", 8), 16);
        Texts.goodSetup(Texts.repeated("row 1 2 3 4 5 6 7 8;", 8), 64);
        Texts.goodSetup("row0 0;row0 0;rain9;gutter3 9;boots a3 9;", 4);
        Texts.goodSetup(" \n row\n0\n0 ; row 00 09 ;\n", 4);
        Texts.goodSetup("rain 3;row 1 1;rain 4;row 1 1;", 4);
        Texts.goodSetup("row 1 1;boots row 1 1;boots rain 0 9;row 1 1;boots abcdef 3 1;boots z 3 1;", 4);
        Texts.goodSetup("row 1 1;row 1 1;gutter 03 09;", 4);
        Texts.goodSetup(Texts.repeated(TWO, 4) + Texts.repeated("rain 0;", 76), 16);
        PuddleCity city = Check.city("row 1 2 3;gutter 2 5;row 4 5 6;gutter 5 9;gutter 2 1;gutter 4 2;"
                + "rain 5;rain 0;rain 8;boots zz 5 9;boots abcdef 0 1;boots q 2 3;boots qq 2 4;");
        Check.same("4: columns", city.columnCount(), 3);
        Check.same("4: rows", city.rowCount(), 2);
        for (int cell = 0; cell < 6; cell++) {
            Check.same("4: heightOf " + cell, city.heightOf(cell), cell + 1);
        }
        Check.same("4: the last gutter statement counts", city.gutterCapacity(2), 1);
        Check.same("4: gutter of 5", city.gutterCapacity(5), 9);
        Check.same("4: gutter of 4", city.gutterCapacity(4), 2);
        Check.same("4: no gutter", city.gutterCapacity(0), 0);
        Check.same("4: the last rain statement counts", city.rain(), 8);
        Check.same("4: boots", city.bootsCount(), 4);
        Check.same("4: name 0", Check.name(city, 0), "zz");
        Check.same("4: name 1", Check.name(city, 1), "abcdef");
        Check.same("4: name 2", Check.name(city, 2), "q");
        Check.same("4: name 3", Check.name(city, 3), "qq");
        Check.same("4: place 0", city.placeOf(0), 5);
        Check.same("4: place 3", city.placeOf(3), 2);
        Check.same("4: height 0", city.bootHeight(0), 9);
        Check.same("4: height 3", city.bootHeight(3), 4);
    }

    private static void replacesEverything() {
        PuddleCity city = Check.city("row 1 2 3;row 4 5 6;gutter 1 3;rain 4;boots ann 5 1;boots bo 4 1;");
        city.burst(0, 20, 60);
        city.dropLeaves(0, 9);
        city.dropLeaves(3, 5);
        Check.same("51: swept", city.sweep(3), 5);
        city.passMinutes(20);
        city.splash(0);
        city.writeRow(1);
        String output = Check.output(city);
        city.saveState();
        Check.feed(city, TWO + "boots cy 1 2;");
        Check.same("4: second setup", city.loadSetup(), 4);
        Check.same("4: everything but the output is new", Check.picture(city),
                Check.picture(Check.city(TWO + "boots cy 1 2;")));
        Check.same("4: rain without a rain statement", city.rain(), 0);
        Check.same("4: gutters of the former setup are gone", city.gutterCapacity(1), 0);
        Check.same("4: minute", city.minute(), 0);
        Check.same("4: water", Check.waters(city), "0 0 0 0");
        Check.same("4: leaves", Check.leaves(city), "0 0 0 0");
        Check.same("4: hydrant", city.hydrantMinutes(0), 0);
        Check.same("4: boots", city.bootsCount(), 1);
        Check.no("4: dry boots", city.isWet(0));
        Check.same("4: splashes", city.splashesOf(0), 0);
        Check.same("4: rained", city.rained(), 0);
        Check.same("4: fromHydrants", city.fromHydrants(), 0);
        Check.same("4: drained", city.drained(), 0);
        Check.same("4: evaporated", city.evaporated(), 0);
        Check.yes("4: isConsistent", city.isConsistent());
        Check.same("4: the output stays", Check.output(city), output);
        Check.noElement("4: no change can be undone", city::undo);
        Check.noElement("4: no state is saved", city::restoreState);
        Check.same("4: neighbours of the new city", city.neighbour(0, PuddleCity.SOUTH), 2);
    }

    private static void badRows() {
        Texts.badSetup(FEW, "@");
        Texts.badSetup(FEW, "  \n@");
        Texts.badSetup(FEW, "row 1 1;@");
        Texts.badSetup(FEW, "row 1 1; rain 1;  @");
        Texts.badSetup(FEW, "rain 1;@");
        Texts.badSetup(SYNTAX, "row@");
        Texts.badSetup(SYNTAX, "row  @");
        Texts.badSetup(SYNTAX, "row @;");
        Texts.badSetup(SYNTAX, "row 1@;");
        Texts.badSetup(SYNTAX, "row 1 1@");
        Texts.badSetup(SYNTAX, "row 1 1 \n@");
        Texts.badSetup(SYNTAX, "row 1 1;row 1 1@");
        Texts.badSetup(SYNTAX, "row 1 1 @row 1 1;");
        Texts.badSetup(SYNTAX, "row @a 1;");
        Texts.badSetup(SYNTAX, "row 1 2 3 4 5 6 7 8 @9;row 1 1;");
        Texts.badSetup(SYNTAX, "row 1 2 3 4 5 6 7 8 @99;row 1 1;");
        Texts.badSetup(SYNTAX, "row 1 1 1;row 1 1@;");
        Texts.badSetup(SYNTAX, "row 1 1 1;row 1@;");
        Texts.badSetup(SYNTAX, "row 1 1 1;row @;");
        Texts.badSetup(SYNTAX, "row 1 1;row 1 1 @1;");
        Texts.badSetup(SYNTAX, "row 1 1;row 1 1 @55;");
        Texts.badSetup(SYNTAX, "row 1 1;row 1 1;row 1 1 @1;");
        Texts.badSetup(RANGE, "row @10 1;row 1 1;");
        Texts.badSetup(RANGE, "row 1 @10;");
        Texts.badSetup(RANGE, "row 1 1;row 1 @99;");
        Texts.badSetup(RANGE, "row 1 1;row @10 1 1;");
        Texts.badSetup(RANGE, "row 1 2 3 4 5 6 7 @10;");
        Texts.badSetup(SYNTAX, "row @100 1;");
        Texts.badSetup(SYNTAX, "row @000 1;");
    }

    private static void badStatements() {
        Texts.badSetup(SYNTAX, "@;");
        Texts.badSetup(SYNTAX, TWO + "@;");
        Texts.badSetup(SYNTAX, "@1 1;");
        Texts.badSetup(SYNTAX, "@rows 1 1;");
        Texts.badSetup(SYNTAX, "@ro 1 1;");
        Texts.badSetup(SYNTAX, "@bow 1 1;");
        Texts.badSetup(SYNTAX, "@rot 1 1;");
        Texts.badSetup(SYNTAX, TWO + "@pain 1;");
        Texts.badSetup(SYNTAX, TWO + "@butter 1 1;");
        Texts.badSetup(SYNTAX, TWO + "@roots a 1 1;");
        Texts.badSetup(SYNTAX, TWO + "@shut 0;");
        Texts.badSetup(SYNTAX, TWO + "@burst 0 1 1;");
        Texts.badSetup(RANGE, "gutter @0 2;");
        Texts.badSetup(RANGE, "row 1 1;gutter @2 1;row 1 1;");
        Texts.badSetup(RANGE, TWO + "gutter @4 1;");
        Texts.badSetup(RANGE, TWO + "gutter 3 @0;");
        Texts.badSetup(RANGE, TWO + "gutter 3 @10;");
        Texts.badSetup(SYNTAX, TWO + "gutter @;");
        Texts.badSetup(SYNTAX, TWO + "gutter 3@;");
        Texts.badSetup(SYNTAX, TWO + "gutter 3 1 @1;");
        Texts.badSetup(SYNTAX, TWO + "gutter 3 1@");
        Texts.badSetup(SYNTAX, TWO + "gutter @x 1;");
        Texts.badSetup(SYNTAX, TWO + "gutter@");
        Texts.badSetup(SYNTAX, TWO + "boots @1 1 1;");
        Texts.badSetup(SYNTAX, TWO + "boots @;");
        Texts.badSetup(SYNTAX, TWO + "boots a@;");
        Texts.badSetup(SYNTAX, TWO + "boots a @b 1;");
        Texts.badSetup(SYNTAX, TWO + "boots a 1@;");
        Texts.badSetup(SYNTAX, TWO + "boots a 1 @b;");
        Texts.badSetup(SYNTAX, TWO + "boots a 1 1@");
        Texts.badSetup(SYNTAX, TWO + "boots a 1 1 @row 1 1;");
        Texts.badSetup(RANGE, "boots a @0 1;");
        Texts.badSetup(RANGE, "row 1 1;boots a @2 1;row 1 1;");
        Texts.badSetup(RANGE, TWO + "boots a @4 1;");
        Texts.badSetup(RANGE, TWO + "boots a 3 @0;");
        Texts.badSetup(RANGE, TWO + "boots a 3 @10;");
        Texts.badSetup(RANGE, "rain @10;");
        Texts.badSetup(SYNTAX, "rain @;");
        Texts.badSetup(SYNTAX, "rain 1 @2;");
        Texts.badSetup(SYNTAX, "rain 1@");
        Texts.badSetup(SYNTAX, "rain @100;");
        Texts.badSetup(SYNTAX, "rain@");
        Texts.badSetup(RANGE, "rain @10 ,;");
        Texts.badSetup(SYNTAX, "rain 1@,10;");
    }

    private static void badTokens() {
        Texts.badSetup(SYNTAX, "@Row 1 1;");
        Texts.badSetup(SYNTAX, "@roW 1 1;");
        Texts.badSetup(SYNTAX, "row@A 1 1;");
        Texts.badSetup(SYNTAX, "row@\t1 1;");
        Texts.badSetup(SYNTAX, "row 1 1;@\rrow 1 1;");
        Texts.badSetup(SYNTAX, "row 1 1;@\u0000");
        Texts.badSetup(SYNTAX, "row 1 1;@\u0080");
        Texts.badSetup(SYNTAX, "row 1 1;@\u00e9");
        Texts.badSetup(SYNTAX, "row 1 1;@`");
        Texts.badSetup(SYNTAX, "row 1 1;@{");
        Texts.badSetup(SYNTAX, "row 1 1;@/");
        Texts.badSetup(SYNTAX, "row 1 1;@:");
        Texts.badSetup(SYNTAX, "row @-1 1;");
        Texts.badSetup(SYNTAX, "row 1@.5 1;");
        Texts.badSetup(SYNTAX, "@rowrowrow 1 1;");
        Texts.badSetup(SYNTAX, "@rowrowro 1 1;");
        Texts.badSetup(SYNTAX, TWO + "@rainrainrain 1;");
        Texts.badSetup(SYNTAX, "row 1 @111111111111111111111111111111 1;");
        Texts.badSetup(SYNTAX, "row 1 @4294967297 1;row 1 1 1;");
        Texts.badSetup(SYNTAX, "row 1 1;row1 1;@;");
        Texts.badSetup(SYNTAX, "row 1 1;row 1 1@\u00a0;");
    }

    private static void badNames() {
        Texts.badSetup(NAME, TWO + "boots sue 0 1;boots @sue 1 1;");
        Texts.badSetup(NAME, TWO + "boots a 0 1;boots b 1 1;boots @a 9 9;");
        Texts.badSetup(NAME, TWO + "boots abcdef 0 1;boots @abcdef;");
        Texts.goodSetup(TWO + "boots abcdef 0 1;boots abcde 1 1;boots abcdeg 1 1;boots bcdef 1 1;", 4);
        Texts.badSetup(SYNTAX, TWO + "boots @abcdefg 0 1;");
        Texts.badSetup(SYNTAX, TWO + "boots @abcdefgh 0 1;");
        Texts.badSetup(SYNTAX, TWO + "boots @abcdefghi 0 1;");
        Texts.badSetup(SYNTAX, TWO + "boots abcdef 0 1;boots @abcdefg 0 1;");
        // the first city's names are free again in a setup
        Texts.goodSetup(TWO + "boots bob 0 1;boots ann 0 1;", 4);
    }

    private static void tooMany() {
        String four = TWO + "boots a 0 1;boots b 0 1;boots c 0 1;boots d 0 1;";
        Texts.goodSetup(four, 4);
        Texts.badSetup(MANY, four + "@boots e 0 1;");
        Texts.badSetup(MANY, four + "@boots a 99 99;");
        Texts.badSetup(MANY, four + "@boots");
        Texts.badSetup(SYNTAX, four + "@bootss e 0 1;");
        String eight = Texts.repeated("row 1 1;", 8);
        Texts.goodSetup(eight, 16);
        Texts.badSetup(MANY, eight + "@row 1 1;");
        Texts.badSetup(MANY, eight + " @row");
        Texts.badSetup(SYNTAX, eight + "@rows 1 1;");
        Texts.goodSetup(eight + "gutter 15 1;rain 1;", 16);
    }

    private static void badSetupLeavesAll() {
        PuddleCity city = Check.city("row 1 2 3;row 4 5 6;gutter 1 3;rain 4;boots ann 5 1;");
        city.dropLeaves(0, 9);
        city.saveState();
        city.passMinutes(20);
        city.writeRow(1);
        String before = Check.picture(city);
        String output = Check.output(city);
        Check.feed(city, "row 9 9;row 9 9;rain 9;boots ann 0 1;gutter 0 1;oh;");
        Check.same("4: bad setup", city.loadSetup(), PuddleCity.NONE);
        Check.same("6: code", city.errorCode(), SYNTAX);
        Check.same("7: offset", city.errorOffset(), 48);
        Check.same("4: the city stays", Check.picture(city), before);
        Check.same("4: the output stays", Check.output(city), output);
        Check.same("4: its name stays", Check.name(city, 0), "ann");
        Check.same("4: the changes stay", city.undo(), 1);
        Check.same("4: the other change stays", city.undo(), 0);
        Check.same("4: the saved state stays", city.restoreState(), 0);
        Check.same("4: with its leaves", city.leavesOn(0), 9);
        Check.same("6: the code stays until the next text", city.errorCode(), SYNTAX);
        Check.same("4: an empty buffer is no setup", city.loadSetup(), PuddleCity.NONE);
        Check.same("6: the code of the empty text", city.errorCode(), FEW);
        Check.same("7: the offset of the empty text", city.errorOffset(), 0);
        Check.same("5: an empty script", city.runScript(), 0);
        Check.same("6: no error any more", city.errorCode(), PuddleCity.NO_ERROR);
        Check.same("7: no offset any more", city.errorOffset(), PuddleCity.NONE);
    }

    private static void nothingOfEarlierSetups() {
        PuddleCity city = Check.city(TWO + "gutter 0 9;rain 9;boots a 0 1;");
        Check.feed(city, "row 1 1;row 1 1;row 1 1;gutter 1 8;rain 8;boots b 1 2;");
        city.loadSetup();
        Check.feed(city, "row 1 1 1;row 1 1 1;gutter 2 7;rain 7;boots c 2 3;boots d 3 3;oh");
        city.loadSetup();
        Check.feed(city, TWO);
        Check.same("4: cells", city.loadSetup(), 4);
        Check.same("4: nothing is left of the setups before", Check.picture(city),
                Check.picture(Check.city(TWO)));
        Check.feed(city, TWO);
        Check.same("4: cells", city.loadSetup(), 4);
        Check.same("4: nor behind one more", Check.picture(city), Check.picture(Check.city(TWO)));
        Check.same("4: no boots", city.bootsCount(), 0);
    }
}
