/** Promises 5, 6 and 7: scripts, good and bad. */
final class ScriptTest {
    private static final int SYNTAX = PuddleCity.SYNTAX;
    private static final int RANGE = PuddleCity.OUT_OF_RANGE;
    private static final int NAME = PuddleCity.BAD_NAME;
    private static final int MANY = PuddleCity.TOO_MANY;

    public static void main(String[] args) {
        eachStatement();
        sameAsTheMethods();
        edges();
        endsBeforeWhatWouldThrow();
        oneChange();
        badStatements();
        badNames();
        tooMany();
        Check.finish();
    }

    private static void eachStatement() {
        PuddleCity city = new PuddleCity();
        Check.same("5: rain", Check.script(city, "rain 7;"), 1);
        Check.same("5: the rain", city.rain(), 7);
        Check.same("5: burst", Check.script(city, "burst 8 20 60;"), 1);
        Check.same("5: the rate", city.hydrantRate(8), 20);
        Check.same("5: the minutes", city.hydrantMinutes(8), 60);
        Check.same("5: shut", Check.script(city, "shut 8;"), 1);
        Check.same("5: it is shut", city.hydrantMinutes(8), 0);
        Check.same("5: leaves", Check.script(city, "leaves 3 9;leaves 3 1;"), 2);
        Check.same("5: the leaves", city.leavesOn(3), 10);
        Check.same("5: sweep", Check.script(city, "sweep 3;"), 1);
        Check.same("5: swept", city.leavesOn(3), 0);
        Check.same("5: walk", Check.script(city, "walk bob 2;walk ann 1;"), 2);
        Check.same("5: bob's place", city.placeOf(1), 7);
        Check.same("5: ann's place", city.placeOf(0), 1);
        Check.same("5: pass", Check.script(city, "pass 3;"), 1);
        Check.same("5: the minute", city.minute(), 3);
        Check.same("5: splash", Check.script(city, "splash bob;splash bob;"), 2);
        Check.same("5: bob's splashes", city.splashesOf(1), 2);
        Check.same("5: ann's splashes", city.splashesOf(0), 0);
        Check.yes("5: isConsistent", city.isConsistent());
    }

    private static void sameAsTheMethods() {
        PuddleCity one = new PuddleCity();
        PuddleCity other = new PuddleCity();
        Check.same("5: a long script", Check.script(one, "rain 3;burst 0 5 7;leaves 1 4;leaves 8 1;"
                + "pass 12;walk ann 2;walk bob 0;splash bob;sweep 8;burst 6 9 9;shut 6;pass 25;"), 12);
        other.setRain(3);
        other.burst(0, 5, 7);
        other.dropLeaves(1, 4);
        other.dropLeaves(8, 1);
        other.passMinutes(12);
        other.walk(0, PuddleCity.SOUTH);
        other.walk(1, PuddleCity.NORTH);
        other.splash(1);
        other.sweep(8);
        other.burst(6, 9, 9);
        other.shut(6);
        other.passMinutes(25);
        Check.same("5: the same as the methods", Check.picture(one), Check.picture(other));
    }

    private static void edges() {
        Texts.goodScript("", 0);
        Texts.goodScript("  \n", 0);
        Texts.goodScript("rain 0;rain 9;rain 09;", 3);
        Texts.goodScript("burst 0 1 1;burst 1 20 60;", 2);
        Texts.goodScript("leaves 0 1;leaves 8 9;sweep 0;sweep 8;", 4);
        Texts.goodScript("pass 1;pass 60;", 2);
        Texts.goodScript("walk bob 0;walk bob 2;walk bob 1;walk bob 3;", 4);
        Texts.goodScript("\nwalk\nbob\n0\n;\n", 1);
        Texts.goodScript("burst0 1 1;shut0;walk bob0;pass1;splash ann;", 5);
        Texts.goodScript(Texts.repeated("pass 1;", 30), 30);
        Texts.goodScript(Texts.repeated("pass 1;", 30) + " \n ", 30);
    }

    private static void endsBeforeWhatWouldThrow() {
        Texts.goodScript("shut 0;rain 3;", 0);
        Texts.goodScript("rain 3;shut 0;rain 4;", 1);
        Texts.goodScript("burst 0 1 1;burst 0 1 1;pass 1;", 1);
        Texts.goodScript("burst 0 1 1;pass 1;burst 0 1 1;shut 0;shut 0;pass 1;", 4);
        Texts.goodScript("walk ann 0;pass 1;", 0);
        Texts.goodScript("walk ann 1;walk ann 0;pass 1;", 1);
        Texts.goodScript("splash ann;pass 1;", 0);
        Texts.goodScript("pass 1;splash bob;walk bob 0;splash bob;pass 1;", 3);
        Texts.goodScript(Texts.repeated("pass 60;", 17), 16);
        PuddleCity city = new PuddleCity();
        Check.same("5: up to 960", Check.script(city, Texts.repeated("pass 60;", 17)), 16);
        Check.same("5: the minutes before remain", city.minute(), 960);
        Check.same("5: past 999", Check.script(city, "rain 0;pass 40;rain 5;"), 1);
        Check.same("5: the rain before remains", city.rain(), 0);
        Check.same("5: to 999", Check.script(city, "pass 39;rain 5;pass 1;rain 6;"), 2);
        Check.same("5: 999", city.minute(), 999);
        Check.same("5: the rain behind pass 39", city.rain(), 5);
    }

    private static void oneChange() {
        PuddleCity city = new PuddleCity();
        city.setRain(2);
        String before = Check.picture(city);
        Check.same("5: three statements", Check.script(city, "rain 3;pass 4;leaves 0 1;"), 3);
        Check.same("5: they are one change", city.undo(), 1);
        Check.same("5: all of them are undone", Check.picture(city), before);
        Check.same("5: nothing executed", Check.script(city, "shut 0;"), 0);
        Check.same("5: it is a change nevertheless", city.undo(), 1);
        Check.same("5: an empty script", city.runScript(), 0);
        Check.same("5: it is a change, too", city.undo(), 1);
        for (int i = 0; i < 9; i++) {
            city.runScript();
        }
        Check.same("5: at most 8 are kept", city.undo(), 7);
    }

    private static void badStatements() {
        Texts.badScript(SYNTAX, "@;");
        Texts.badScript(SYNTAX, "@row 1 1;");
        Texts.badScript(SYNTAX, "@gutter 1 1;");
        Texts.badScript(SYNTAX, "@boots ann 1 1;");
        Texts.badScript(SYNTAX, "@5;");
        Texts.badScript(SYNTAX, "@passes 5;");
        Texts.badScript(SYNTAX, "@mass 5;");
        Texts.badScript(SYNTAX, "@talk ann 1;");
        Texts.badScript(SYNTAX, "@walt ann 1;");
        Texts.badScript(SYNTAX, "pass 1;@pas 5;");
        Texts.badScript(SYNTAX, "pass5@x;");
        Texts.badScript(SYNTAX, "pass@");
        Texts.badScript(SYNTAX, "pass @;");
        Texts.badScript(SYNTAX, "pass 1@");
        Texts.badScript(SYNTAX, "pass 1  @");
        Texts.badScript(SYNTAX, "pass 1 @pass 1;");
        Texts.badScript(SYNTAX, "pass 1 @1;");
        Texts.badScript(SYNTAX, "pass @ann;");
        Texts.badScript(SYNTAX, "pass @100;");
        Texts.badScript(SYNTAX, "pass @-1;");
        Texts.badScript(RANGE, "pass @0;");
        Texts.badScript(RANGE, "pass @61;");
        Texts.badScript(RANGE, "rain 1;pass @61;");
        Texts.badScript(RANGE, "rain @10;");
        Texts.badScript(SYNTAX, "rain@");
        Texts.badScript(RANGE, "burst @9 1 1;");
        Texts.badScript(RANGE, "burst 0 @0 1;");
        Texts.badScript(RANGE, "burst 0 @21 1;");
        Texts.badScript(RANGE, "burst 0 1 @0;");
        Texts.badScript(RANGE, "burst 0 1 @61;");
        Texts.badScript(SYNTAX, "burst 0 1@;");
        Texts.badScript(SYNTAX, "burst 0@;");
        Texts.badScript(SYNTAX, "burst @;");
        Texts.badScript(SYNTAX, "burst 0 1 1 @1;");
        Texts.badScript(RANGE, "shut @9;");
        Texts.badScript(SYNTAX, "shut @;");
        Texts.badScript(SYNTAX, "shut 0 @0;");
        Texts.badScript(RANGE, "leaves @9 1;");
        Texts.badScript(RANGE, "leaves 0 @0;");
        Texts.badScript(RANGE, "leaves 0 @10;");
        Texts.badScript(SYNTAX, "leaves 0@;");
        Texts.badScript(RANGE, "sweep @9;");
        Texts.badScript(SYNTAX, "sweep @ann;");
        Texts.badScript(RANGE, "walk ann @4;");
        Texts.badScript(SYNTAX, "walk ann@;");
        Texts.badScript(SYNTAX, "walk ann @north;");
        Texts.badScript(SYNTAX, "walk @0 0;");
        Texts.badScript(SYNTAX, "splash @0;");
        Texts.badScript(SYNTAX, "splash @;");
        Texts.badScript(SYNTAX, "splash ann @1;");
        Texts.badScript(SYNTAX, "splash@");
        Texts.badScript(SYNTAX, "splash ann@");
        Texts.badScript(SYNTAX, "@walkann 0;");
        Texts.badScript(SYNTAX, "walk ann 0@,");
        Texts.badScript(SYNTAX, "rain 1;pass 1;@\u00ff");
        PuddleCity big = Check.city("row 1 1 1 1 1 1 1 1;row 1 1 1 1 1 1 1 1;");
        Check.same("5: the cells of the city count", Check.script(big, "sweep 15;"), 1);
        Check.same("5: past the cells of the city", Check.script(big, "sweep 16;"), -1);
    }

    private static void badNames() {
        Texts.badScript(NAME, "walk @eve 0;");
        Texts.badScript(NAME, "splash @eve;");
        Texts.badScript(NAME, "walk @an 0;");
        Texts.badScript(NAME, "walk @cob 0;");
        Texts.badScript(NAME, "walk @bab 0;");
        Texts.badScript(NAME, "walk @anna 0;");
        Texts.badScript(NAME, "walk @annann 0;");
        Texts.badScript(NAME, "walk @walk 0;");
        Texts.badScript(NAME, "splash @a;");
        Texts.badScript(NAME, "splash @anm;");
        Texts.badScript(SYNTAX, "splash @annannx;");
        Texts.badScript(SYNTAX, "splash @annannxx;");
        Texts.badScript(SYNTAX, "splash @annannxxx;");
        Texts.badScript(SYNTAX, "walk @annbobx 9;");
        PuddleCity city = Check.city("row 1 1;row 1 1;");
        Check.feed(city, "splash ann;");
        Check.same("5: no boots at all", city.runScript(), -1);
        Check.same("6: code without boots", city.errorCode(), NAME);
        Check.same("7: offset without boots", city.errorOffset(), 7);
        city = Check.city("row 1 1;row 1 1;boots walk 0 1;boots pass 3 1;");
        Check.same("5: names like verbs", Check.script(city, "walk walk 1;walk pass 3;"), 2);
        Check.same("5: place of walk", city.placeOf(0), 1);
        Check.same("5: place of pass", city.placeOf(1), 2);
    }

    private static void tooMany() {
        String thirty = Texts.repeated("rain 1;", 30);
        Texts.goodScript(thirty, 30);
        Texts.badScript(MANY, thirty + "@rain 1;");
        Texts.badScript(MANY, thirty + "  @walk eve 9;");
        Texts.badScript(MANY, thirty + "@pass");
        Texts.badScript(SYNTAX, thirty + "@;");
        Texts.badScript(SYNTAX, thirty + "@row 1 1;");
        Texts.badScript(SYNTAX, thirty + "@passpasspass");
        Texts.badScript(SYNTAX, thirty + "@1");
        Texts.badScript(RANGE, Texts.repeated("rain 1;", 29) + "rain @10;rain 1;");
    }
}
