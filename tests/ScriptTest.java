/** Promises 5, 6 and 7: scripts, good and bad. */
final class ScriptTest {
    private static final int SYNTAX = PuddleCity.SYNTAX;
    private static final int RANGE = PuddleCity.OUT_OF_RANGE;
    private static final int NAME = PuddleCity.BAD_NAME;
    private static final int MANY = PuddleCity.TOO_MANY;

    public static void main(String[] args) {
        eachStatement();
        sameAsTheMethods();
        edges();
        endsBeforeWhatWouldThrow();
        oneChange();
        badStatements();
        badNames();
        tooMany();
        Check.finish();
    }

    private static void good(String script, int executed) {
        PuddleCity city = new PuddleCity();
        Check.feed(city, script);
        Check.same("5: executed of " + script, city.runScript(), executed);
        Check.same("6: code of " + script, city.errorCode(), PuddleCity.NO_ERROR);
        Check.same("7: offset of " + script, city.errorOffset(), PuddleCity.NONE);
        Check.no("5: the buffer is emptied after " + script, city.truncateInput(1));
        Check.same("5: one change by " + script, city.undo(), 0);
        Check.same("5: undone " + script, Check.picture(city), Check.picture(new PuddleCity()));
    }

    /** The mark @ shows where the error is, and is no part of the text. */
    private static void bad(int code, String marked) {
        int offset = marked.indexOf('@');
        String script = marked.substring(0, offset) + marked.substring(offset + 1);
        PuddleCity city = new PuddleCity();
        String before = Check.picture(city);
        Check.feed(city, script);
        Check.same("5: runScript of " + marked, city.runScript(), PuddleCity.NONE);
        Check.same("6: code of " + marked, city.errorCode(), code);
        Check.same("7: offset of " + marked, city.errorOffset(), offset);
        Check.same("5: the city after " + marked, Check.picture(city), before);
        Check.no("5: the buffer is emptied after " + marked, city.truncateInput(1));
        Check.noElement("5: no change by " + marked, city::undo);
    }

    private static String repeated(String part, int times) {
        StringBuilder all = new StringBuilder();
        for (int i = 0; i < times; i++) {
            all.append(part);
        }
        return all.toString();
    }

    private static void eachStatement() {
        PuddleCity city = new PuddleCity();
        Check.same("5: rain", Check.script(city, "rain 7;"), 1);
        Check.same("5: the rain", city.rain(), 7);
        Check.same("5: burst", Check.script(city, "burst 8 20 60;"), 1);
        Check.same("5: the rate", city.hydrantRate(8), 20);
        Check.same("5: the minutes", city.hydrantMinutes(8), 60);
        Check.same("5: shut", Check.script(city, "shut 8;"), 1);
        Check.same("5: it is shut", city.hydrantMinutes(8), 0);
        Check.same("5: leaves", Check.script(city, "leaves 3 9;leaves 3 1;"), 2);
        Check.same("5: the leaves", city.leavesOn(3), 10);
        Check.same("5: sweep", Check.script(city, "sweep 3;"), 1);
        Check.same("5: swept", city.leavesOn(3), 0);
        Check.same("5: walk", Check.script(city, "walk bob 2;walk ann 1;"), 2);
        Check.same("5: bob's place", city.placeOf(1), 7);
        Check.same("5: ann's place", city.placeOf(0), 1);
        Check.same("5: pass", Check.script(city, "pass 3;"), 1);
        Check.same("5: the minute", city.minute(), 3);
        Check.same("5: splash", Check.script(city, "splash bob;splash bob;"), 2);
        Check.same("5: bob's splashes", city.splashesOf(1), 2);
        Check.same("5: ann's splashes", city.splashesOf(0), 0);
        Check.yes("5: isConsistent", city.isConsistent());
    }

    private static void sameAsTheMethods() {
        PuddleCity one = new PuddleCity();
        PuddleCity other = new PuddleCity();
        Check.same("5: a long script", Check.script(one, "rain 3;burst 0 5 7;leaves 1 4;leaves 8 1;"
                + "pass 12;walk ann 2;walk bob 0;splash bob;sweep 8;burst 6 9 9;shut 6;pass 25;"), 12);
        other.setRain(3);
        other.burst(0, 5, 7);
        other.dropLeaves(1, 4);
        other.dropLeaves(8, 1);
        other.passMinutes(12);
        other.walk(0, PuddleCity.SOUTH);
        other.walk(1, PuddleCity.NORTH);
        other.splash(1);
        other.sweep(8);
        other.burst(6, 9, 9);
        other.shut(6);
        other.passMinutes(25);
        Check.same("5: the same as the methods", Check.picture(one), Check.picture(other));
    }

    private static void edges() {
        good("", 0);
        good("  \n", 0);
        good("rain 0;rain 9;rain 09;", 3);
        good("burst 0 1 1;burst 1 20 60;", 2);
        good("leaves 0 1;leaves 8 9;sweep 0;sweep 8;", 4);
        good("pass 1;pass 60;", 2);
        good("walk bob 0;walk bob 2;walk bob 1;walk bob 3;", 4);
        good("\nwalk\nbob\n0\n;\n", 1);
        good("burst0 1 1;shut0;walk bob0;pass1;splash ann;", 5);
        good(repeated("pass 1;", 30), 30);
        good(repeated("pass 1;", 30) + " \n ", 30);
    }

    private static void endsBeforeWhatWouldThrow() {
        good("shut 0;rain 3;", 0);
        good("rain 3;shut 0;rain 4;", 1);
        good("burst 0 1 1;burst 0 1 1;pass 1;", 1);
        good("burst 0 1 1;pass 1;burst 0 1 1;shut 0;shut 0;pass 1;", 4);
        good("walk ann 0;pass 1;", 0);
        good("walk ann 1;walk ann 0;pass 1;", 1);
        good("splash ann;pass 1;", 0);
        good("pass 1;splash bob;walk bob 0;splash bob;pass 1;", 3);
        good(repeated("pass 60;", 17), 16);
        PuddleCity city = new PuddleCity();
        Check.same("5: up to 960", Check.script(city, repeated("pass 60;", 17)), 16);
        Check.same("5: the minutes before remain", city.minute(), 960);
        Check.same("5: past 999", Check.script(city, "rain 0;pass 40;rain 5;"), 1);
        Check.same("5: the rain before remains", city.rain(), 0);
        Check.same("5: to 999", Check.script(city, "pass 39;rain 5;pass 1;rain 6;"), 2);
        Check.same("5: 999", city.minute(), 999);
        Check.same("5: the rain behind pass 39", city.rain(), 5);
    }

    private static void oneChange() {
        PuddleCity city = new PuddleCity();
        city.setRain(2);
        String before = Check.picture(city);
        Check.same("5: three statements", Check.script(city, "rain 3;pass 4;leaves 0 1;"), 3);
        Check.same("5: they are one change", city.undo(), 1);
        Check.same("5: all of them are undone", Check.picture(city), before);
        Check.same("5: nothing executed", Check.script(city, "shut 0;"), 0);
        Check.same("5: it is a change nevertheless", city.undo(), 1);
        Check.same("5: an empty script", city.runScript(), 0);
        Check.same("5: it is a change, too", city.undo(), 1);
        for (int i = 0; i < 9; i++) {
            city.runScript();
        }
        Check.same("5: at most 8 are kept", city.undo(), 7);
    }

    private static void badStatements() {
        bad(SYNTAX, "@;");
        bad(SYNTAX, "@row 1 1;");
        bad(SYNTAX, "@gutter 1 1;");
        bad(SYNTAX, "@boots ann 1 1;");
        bad(SYNTAX, "@5;");
        bad(SYNTAX, "@passes 5;");
        bad(SYNTAX, "@mass 5;");
        bad(SYNTAX, "@talk ann 1;");
        bad(SYNTAX, "@walt ann 1;");
        bad(SYNTAX, "pass 1;@pas 5;");
        bad(SYNTAX, "pass5@x;");
        bad(SYNTAX, "pass@");
        bad(SYNTAX, "pass @;");
        bad(SYNTAX, "pass 1@");
        bad(SYNTAX, "pass 1  @");
        bad(SYNTAX, "pass 1 @pass 1;");
        bad(SYNTAX, "pass 1 @1;");
        bad(SYNTAX, "pass @ann;");
        bad(SYNTAX, "pass @100;");
        bad(SYNTAX, "pass @-1;");
        bad(RANGE, "pass @0;");
        bad(RANGE, "pass @61;");
        bad(RANGE, "rain 1;pass @61;");
        bad(RANGE, "rain @10;");
        bad(SYNTAX, "rain@");
        bad(RANGE, "burst @9 1 1;");
        bad(RANGE, "burst 0 @0 1;");
        bad(RANGE, "burst 0 @21 1;");
        bad(RANGE, "burst 0 1 @0;");
        bad(RANGE, "burst 0 1 @61;");
        bad(SYNTAX, "burst 0 1@;");
        bad(SYNTAX, "burst 0@;");
        bad(SYNTAX, "burst @;");
        bad(SYNTAX, "burst 0 1 1 @1;");
        bad(RANGE, "shut @9;");
        bad(SYNTAX, "shut @;");
        bad(SYNTAX, "shut 0 @0;");
        bad(RANGE, "leaves @9 1;");
        bad(RANGE, "leaves 0 @0;");
        bad(RANGE, "leaves 0 @10;");
        bad(SYNTAX, "leaves 0@;");
        bad(RANGE, "sweep @9;");
        bad(SYNTAX, "sweep @ann;");
        bad(RANGE, "walk ann @4;");
        bad(SYNTAX, "walk ann@;");
        bad(SYNTAX, "walk ann @north;");
        bad(SYNTAX, "walk @0 0;");
        bad(SYNTAX, "splash @0;");
        bad(SYNTAX, "splash @;");
        bad(SYNTAX, "splash ann @1;");
        bad(SYNTAX, "splash@");
        bad(SYNTAX, "splash ann@");
        bad(SYNTAX, "@walkann 0;");
        bad(SYNTAX, "walk ann 0@,");
        bad(SYNTAX, "rain 1;pass 1;@\u00ff");
        PuddleCity big = Check.city("row 1 1 1 1 1 1 1 1;row 1 1 1 1 1 1 1 1;");
        Check.same("5: the cells of the city count", Check.script(big, "sweep 15;"), 1);
        Check.same("5: past the cells of the city", Check.script(big, "sweep 16;"), -1);
    }

    private static void badNames() {
        bad(NAME, "walk @eve 0;");
        bad(NAME, "splash @eve;");
        bad(NAME, "walk @an 0;");
        bad(NAME, "walk @cob 0;");
        bad(NAME, "walk @bab 0;");
        bad(NAME, "walk @anna 0;");
        bad(NAME, "walk @annann 0;");
        bad(NAME, "walk @walk 0;");
        bad(NAME, "splash @a;");
        bad(NAME, "splash @anm;");
        bad(SYNTAX, "splash @annannx;");
        bad(SYNTAX, "splash @annannxx;");
        bad(SYNTAX, "splash @annannxxx;");
        bad(SYNTAX, "walk @annbobx 9;");
        PuddleCity city = Check.city("row 1 1;row 1 1;");
        Check.feed(city, "splash ann;");
        Check.same("5: no boots at all", city.runScript(), -1);
        Check.same("6: code without boots", city.errorCode(), NAME);
        Check.same("7: offset without boots", city.errorOffset(), 7);
        city = Check.city("row 1 1;row 1 1;boots walk 0 1;boots pass 3 1;");
        Check.same("5: names like verbs", Check.script(city, "walk walk 1;walk pass 3;"), 2);
        Check.same("5: place of walk", city.placeOf(0), 1);
        Check.same("5: place of pass", city.placeOf(1), 2);
    }

    private static void tooMany() {
        String thirty = repeated("rain 1;", 30);
        good(thirty, 30);
        bad(MANY, thirty + "@rain 1;");
        bad(MANY, thirty + "  @walk eve 9;");
        bad(MANY, thirty + "@pass");
        bad(SYNTAX, thirty + "@;");
        bad(SYNTAX, thirty + "@row 1 1;");
        bad(SYNTAX, thirty + "@passpasspass");
        bad(SYNTAX, thirty + "@1");
        bad(RANGE, repeated("rain 1;", 29) + "rain @10;rain 1;");
    }
}
