/** Each sentence about changes, execution, output and saved state (promises 47 to 59) that names a boundary case. */
final class BoundsOfChangesTest {
    private static final int NONE = PuddleCity.NONE;
    private static final int LEAST = Integer.MIN_VALUE;
    private static final int MOST = Integer.MAX_VALUE;
    private static final String TWO = "row 1 1;row 1 1;";
    private static final String PIT = "row 0 9;row 9 9;";

    public static void main(String[] args) {
        eachChange();
        changesThatChangeNothing();
        eightChanges();
        aThrowChangesNothing();
        theFirstException();
        noSuchNumber();
        execution();
        setRain();
        burst();
        shut();
        dropLeaves();
        sweep();
        walk();
        splash();
        passMinutes();
        undo();
        writeRow();
        outputByte();
        saveState();
        restoreState();
        lastCall();
        Check.finish();
    }

    /** The call upon a city in which it succeeds, undone and then undone no more. */
    private static void undone(String what, Call call) {
        PuddleCity city = Check.city(PIT + "gutter 3 2;boots a 0 1;boots b 3 2;");
        Check.same("what comes before " + what, Check.script(city, "leaves 3 5;burst 0 3 60;pass 2;"), 3);
        String before = Check.picture(city);
        call.on(city);
        Check.no(what + " does something", Check.picture(city).equals(before));
        Check.same(what + " is the second change", city.undo(), 1);
        Check.same(what + " is undone", Check.picture(city), before);
        Check.same(what + " is undone only once", city.undo(), 0);
    }

    private static void eachChange() {
        Check.sentence("Changes", "Every method whose description calls it a change can be undone if it succeeds");
        undone("setRain", city -> city.setRain(9));
        undone("burst", city -> city.burst(3, 20, 60));
        undone("shut", city -> city.shut(0));
        undone("dropLeaves", city -> city.dropLeaves(0, 9));
        undone("sweep", city -> city.sweep(3));
        undone("walk", city -> city.walk(0, PuddleCity.EAST));
        undone("splash", city -> city.splash(0));
        undone("passMinutes", city -> city.passMinutes(60));
        undone("runScript", city -> Check.script(city, "walk b 0;sweep 3;shut 1;"));
        // both pairs stand dry beside a pit of 6 and walk into it
        PuddleCity wet = Check.city(PIT + "boots a 1 5;boots b 2 5;");
        wet.burst(0, 6, 1);
        wet.passMinutes(1);
        wet.walk(0, PuddleCity.WEST);
        wet.walk(1, PuddleCity.NORTH);
        Check.yes("both are wet", wet.isWet(0) && wet.isWet(1));
        wet.undo();
        Check.yes("one walk undone", wet.isWet(0) && !wet.isWet(1));
        wet.undo();
        Check.no("both walks undone", wet.isWet(0) || wet.isWet(1));
    }

    private static void changesThatChangeNothing() {
        Check.sentence("Changes", "can be undone if it succeeds, even if it leaves everything as it was");
        PuddleCity city = new PuddleCity();
        city.setRain(1);
        Check.same("the same rain", city.undo(), 0);
        city.sweep(0);
        Check.same("a sweep of no leaves", city.undo(), 0);
        city.runScript();
        Check.same("an empty script", city.undo(), 0);
        PuddleCity pit = Check.city(PIT + "boots a 0 1;");
        pit.passMinutes(1);
        Check.same("a minute without rain", pit.undo(), 0);
        Check.same("the minute before", pit.minute(), 0);
        pit.burst(0, 4, 1);
        pit.passMinutes(1);
        pit.splash(0);
        Check.same("a splash that throws nothing", pit.undo(), 2);
        Check.same("the splashes before", pit.splashesOf(0), 0);
    }

    private static void eightChanges() {
        Check.sentence("Changes", "At most 8 changes are kept; a further change drops the oldest one");
        for (int changes = 1; changes <= 26; changes++) {
            PuddleCity city = Check.city(TWO);
            for (int i = 1; i <= changes; i++) {
                city.dropLeaves(0, 1);
            }
            int kept = Math.min(changes, 8);
            for (int left = kept - 1; left >= 0; left--) {
                Check.same("left of " + changes, city.undo(), left);
                Check.same("leaves of " + changes, city.leavesOn(0), changes - kept + left);
            }
            Check.noElement("no more of " + changes, city::undo);
            Check.same("the leaves that stay of " + changes, city.leavesOn(0), changes - kept);
        }
        PuddleCity mixed = Check.city(TWO);
        for (int i = 0; i < 11; i++) {
            mixed.dropLeaves(0, 1);
        }
        Check.same("one undone behind the wrap-around", mixed.undo(), 7);
        mixed.dropLeaves(0, 9);
        mixed.dropLeaves(0, 9);
        Check.same("it is full again", mixed.undo(), 7);
        Check.same("leaves", mixed.leavesOn(0), 19);
        Check.same("and goes on", mixed.undo(), 6);
        Check.same("leaves before", mixed.leavesOn(0), 10);
        for (int left = 5; left >= 0; left--) {
            Check.same("left", mixed.undo(), left);
        }
        Check.same("the oldest was dropped", mixed.leavesOn(0), 4);
        Check.noElement("none is left", mixed::undo);
        PuddleCity script = Check.city(TWO);
        script.setRain(2);
        Check.script(script, Texts.repeated("leaves 0 1;", 30));
        Check.same("30 statements are one of the changes", script.undo(), 1);
        Check.same("the rain is kept, too", script.undo(), 0);
    }

    /** A city in which every change is refused for some reason, with a change, an output and a saved state. */
    private static PuddleCity used() {
        PuddleCity city = Check.city(PIT + "gutter 3 2;boots a 0 1;boots b 3 2;");
        city.burst(0, 3, 60);
        city.passMinutes(3);
        city.dropLeaves(3, 4);
        city.saveState();
        city.writeRow(1);
        Check.feed(city, "rain 5;");
        return city;
    }

    private static void unchanged(String what, PuddleCity city) {
        Check.same("the city behind " + what, Check.picture(city), Check.picture(used()));
        Check.same("the output behind " + what, Check.output(city), "..%");
        Check.no("the buffer behind " + what, city.truncateInput(8));
        Check.yes("the buffer behind " + what, city.truncateInput(7));
        Check.same("the error behind " + what, city.errorCode(), PuddleCity.NO_ERROR);
        Check.same("the changes behind " + what, city.undo(), 2);
        Check.same("the leaves undone behind " + what, city.leavesOn(3), 0);
        Check.same("the other changes behind " + what, city.undo(), 1);
        Check.same("the state saved behind " + what, city.restoreState(), 3);
        Check.same("the leaves saved behind " + what, city.leavesOn(3), 4);
        Check.same("what was in the buffer behind " + what, city.runScript(), 1);
    }

    private interface Call {
        void on(PuddleCity city);
    }

    private static void noIndex(String what, Call call) {
        PuddleCity city = used();
        Check.noIndex(what, () -> call.on(city));
        unchanged(what, city);
    }

    private static void noArgument(String what, Call call) {
        PuddleCity city = used();
        Check.noArgument(what, () -> call.on(city));
        unchanged(what, city);
    }

    private static void noState(String what, Call call) {
        PuddleCity city = used();
        Check.noState(what, () -> call.on(city));
        unchanged(what, city);
    }

    private static void aThrowChangesNothing() {
        Check.sentence("Changes", "A method that throws an exception changes nothing");
        noArgument("setRain(10)", city -> city.setRain(10));
        noIndex("burst(4, 1, 1)", city -> city.burst(4, 1, 1));
        noArgument("burst(1, 21, 1)", city -> city.burst(1, 21, 1));
        noArgument("burst(1, 1, 61)", city -> city.burst(1, 1, 61));
        noState("burst(0, 1, 1)", city -> city.burst(0, 1, 1));
        noIndex("shut(4)", city -> city.shut(4));
        noState("shut(1)", city -> city.shut(1));
        noIndex("dropLeaves(4, 1)", city -> city.dropLeaves(4, 1));
        noArgument("dropLeaves(1, 10)", city -> city.dropLeaves(1, 10));
        noIndex("sweep(4)", city -> city.sweep(4));
        noIndex("walk(2, 0)", city -> city.walk(2, 0));
        noArgument("walk(0, 4)", city -> city.walk(0, 4));
        noState("walk(0, 0)", city -> city.walk(0, 0));
        noIndex("splash(2)", city -> city.splash(2));
        noState("splash(1)", city -> city.splash(1));
        noArgument("passMinutes(61)", city -> city.passMinutes(61));
        noIndex("writeRow(2)", city -> city.writeRow(2));
        noIndex("heightOf(4)", city -> city.heightOf(4));
        noIndex("puddleSize(1)", city -> city.puddleSize(1));
        noIndex("dryWay(0, 4)", city -> city.dryWay(0, 4));
        noIndex("waterAfter(4, 1)", city -> city.waterAfter(4, 1));
        noArgument("waterAfter(0, 101)", city -> city.waterAfter(0, 101));
        noArgument("drainedAfter(101)", city -> city.drainedAfter(101));
        PuddleCity fresh = new PuddleCity();
        Check.noElement("undo of nothing", fresh::undo);
        Check.noElement("restoreState of nothing", fresh::restoreState);
        Check.same("the city behind both", Check.picture(fresh), Check.picture(new PuddleCity()));
        fresh.setRain(3);
        Check.noElement("restoreState of nothing", fresh::restoreState);
        Check.same("the change behind it stays", fresh.undo(), 0);
    }

    private static void theFirstException() {
        Check.sentence("Changes", "If several exceptions apply to a call, the one that is listed first is thrown");
        PuddleCity city = used();
        int[] wrong = {-1, 99, LEAST, MOST};
        for (int bad : wrong) {
            Check.noIndex("burst: no cell, rate and minutes wrong", () -> city.burst(bad, 0, 61));
            Check.noIndex("burst: no cell", () -> city.burst(4, bad, 1));
            Check.noIndex("burst: no cell", () -> city.burst(4, 1, bad));
            Check.noArgument("burst: rate wrong, open", () -> city.burst(0, bad, 1));
            Check.noArgument("burst: minutes wrong, open", () -> city.burst(0, 1, bad));
            Check.noIndex("shut: no cell, so none open", () -> city.shut(bad));
            Check.noIndex("dropLeaves: no cell, count wrong", () -> city.dropLeaves(4, bad));
            Check.noIndex("walk: no boots, direction wrong", () -> city.walk(2, bad));
            Check.noArgument("walk: direction wrong, so no neighbour", () -> city.walk(0, bad));
            Check.noIndex("splash: no boots, so no wet cell", () -> city.splash(bad));
            Check.noIndex("neighbour: no cell, direction wrong", () -> city.neighbour(4, bad));
            Check.noIndex("waterAfter: no cell, minutes wrong", () -> city.waterAfter(4, bad == 99 ? 101 : bad));
        }
        PuddleCity late = Check.city(TWO);
        toMinute(late, 999);
        for (int bad : new int[] {0, 61, -1, LEAST, MOST}) {
            Check.noArgument("passMinutes: minutes wrong, at the last minute", () -> late.passMinutes(bad));
        }
    }

    private static void toMinute(PuddleCity city, int minute) {
        while (city.minute() < minute) {
            city.passMinutes(Math.min(60, minute - city.minute()));
        }
    }

    private static void noSuchNumber() {
        Check.sentence("Changes",
                "A number that is not that of a cell, of a puddle or of boots causes an "
                + "IndexOutOfBoundsException");
        PuddleCity[] cities = {Check.city(TWO + "boots a 0 1;"), new PuddleCity(),
            Check.city(Texts.repeated("row 1 1 1 1 1 1 1 1;", 8) + "boots a 0 1;boots b 0 1;boots c 0 1;boots d 0 1;")};
        for (PuddleCity city : cities) {
            int cells = city.columnCount() * city.rowCount();
            for (int wrong : new int[] {-1, cells, cells + 1, 64, LEAST, MOST}) {
                Check.noIndex("burst " + wrong, () -> city.burst(wrong, 1, 1));
                Check.noIndex("shut " + wrong, () -> city.shut(wrong));
                Check.noIndex("dropLeaves " + wrong, () -> city.dropLeaves(wrong, 1));
                Check.noIndex("sweep " + wrong, () -> city.sweep(wrong));
            }
            int count = city.bootsCount();
            for (int wrong : new int[] {-1, count, count + 1, 4, 64, LEAST, MOST}) {
                Check.noIndex("walk " + wrong, () -> city.walk(wrong, PuddleCity.EAST));
                Check.noIndex("splash " + wrong, () -> city.splash(wrong));
            }
            Check.noIndex("puddleSize of a dry city", () -> city.puddleSize(0));
            Check.noIndex("puddleWater of a dry city", () -> city.puddleWater(0));
            Check.noElement("none of these is a change", city::undo);
            city.burst(cells - 1, 1, 1);
            city.shut(cells - 1);
            city.dropLeaves(cells - 1, 1);
            Check.same("the last cell", city.sweep(cells - 1), 1);
            Check.same("the last boots", city.walk(count - 1, PuddleCity.EAST), city.placeOf(count - 1));
        }
    }

    private static void execution() {
        Check.sentence("Execution of scripts",
                "as the methods setRain, burst, shut, dropLeaves, sweep, walk, splash and passMinutes");
        PuddleCity all = new PuddleCity();
        Check.same("up to a hydrant that is shut already", Check.script(all,
                "rain 9;burst 8 20 60;leaves 8 9;leaves 0 1;pass 60;shut 8;sweep 8;walk bob 1;splash bob;"), 5);
        PuddleCity methods = new PuddleCity();
        methods.setRain(9);
        methods.burst(8, 20, 60);
        methods.dropLeaves(8, 9);
        methods.dropLeaves(0, 1);
        methods.passMinutes(60);
        Check.noState("shut by itself", () -> methods.shut(8));
        Check.same("five are as by the methods", Check.picture(all), Check.picture(methods));
        Check.same("and one change", all.undo(), 0);
        Check.same("with one minute less all nine", Check.script(all,
                "rain 9;burst 8 20 60;leaves 8 9;leaves 0 1;pass 59;shut 8;sweep 8;walk bob 1;splash bob;"), 9);
        methods.undo();
        methods.passMinutes(59);
        methods.shut(8);
        Check.yes("swept some", methods.sweep(8) > 0);
        methods.walk(1, PuddleCity.EAST);
        methods.splash(1);
        Check.same("as by the methods", Check.picture(all), Check.picture(methods));
        Check.sentence("Execution of scripts",
                "Execution ends before the first statement whose method would throw an exception");
        Texts.goodScript("burst 0 1 1;burst 0 1 1;rain 2;", 1);
        Texts.goodScript("shut 0;rain 2;", 0);
        Texts.goodScript("burst 0 1 2;pass 1;shut 0;shut 0;rain 2;", 3);
        Texts.goodScript("burst 0 1 1;pass 1;shut 0;rain 2;", 2);
        Texts.goodScript("walk ann 0;rain 2;", 0);
        Texts.goodScript("walk ann 3;rain 2;", 0);
        Texts.goodScript("walk ann 1;walk ann 1;walk ann 1;rain 2;", 2);
        Texts.goodScript("walk ann 2;walk ann 2;walk ann 2;rain 2;", 2);
        Texts.goodScript("splash bob;rain 2;", 0);
        Texts.goodScript("pass 1;splash bob;rain 2;", 3);
        Texts.goodScript(Texts.repeated("rain 2;", 29) + "shut 0;", 29);
        Texts.goodScript("rain 2;shut 0;shut 1;shut 2;rain 3;", 1);
        PuddleCity late = Check.city(TWO);
        toMinute(late, 939);
        Check.same("to minute 999 and no further", Check.script(late, "pass 60;pass 1;rain 2;"), 1);
        Check.same("minute", late.minute(), 999);
        Check.same("a minute past 999", Check.script(late, "pass 1;rain 2;"), 0);
        late.undo();
        late.undo();
        late.passMinutes(1);
        Check.same("60 minutes from 940", Check.script(late, "pass 60;rain 2;"), 0);
        Check.same("59 minutes from 940", Check.script(late, "pass 59;rain 2;"), 2);

        Check.sentence("Execution of scripts", "The statements before it remain executed");
        PuddleCity city = new PuddleCity();
        Check.same("six of eight", Check.script(city,
                "rain 3;leaves 0 9;burst 4 20 60;walk ann 1;pass 5;splash bob;walk ann 0;rain 9;"), 6);
        PuddleCity same = new PuddleCity();
        same.setRain(3);
        same.dropLeaves(0, 9);
        same.burst(4, 20, 60);
        same.walk(0, PuddleCity.EAST);
        same.passMinutes(5);
        same.splash(1);
        Check.same("as by the methods", Check.picture(city), Check.picture(same));
    }

    private static void setRain() {
        Check.sentence("Promise 47", "units of water, 0 to 9");
        PuddleCity city = new PuddleCity();
        Check.same("the most", city.setRain(9), 1);
        Check.same("none", city.setRain(0), 9);
        Check.same("none again", city.setRain(0), 0);
        Check.sentence("Promise 47", "IllegalArgumentException if rate is outside its range");
        for (int wrong : new int[] {-1, 10, 11, LEAST, MOST}) {
            Check.noArgument("rate " + wrong, () -> city.setRain(wrong));
        }
        Check.same("the rain stays", city.rain(), 0);
        Check.same("three changes", city.undo(), 2);
    }

    private static void burst() {
        Check.sentence("Promise 48", "units of water in a minute, 1 to 20");
        PuddleCity city = Check.city(TWO);
        Check.same("the least", city.burst(0, 1, 1), 1);
        Check.same("the most", city.burst(1, 20, 1), 2);
        city.passMinutes(60);
        Check.same("both came once", city.fromHydrants(), 21);
        Check.sentence("Promise 48", "number of minutes, 1 to 60");
        Check.same("the fewest", city.burst(2, 1, 1), 1);
        Check.same("the most", city.burst(3, 2, 60), 2);
        city.passMinutes(59);
        Check.same("59 of them", city.fromHydrants(), 21 + 1 + 59 * 2);
        city.passMinutes(2);
        Check.same("60 and no more", city.fromHydrants(), 21 + 1 + 60 * 2);
        Check.sentence("Promise 48", "IllegalArgumentException if rate or minutes is outside its range");
        for (int wrong : new int[] {0, -1, 21, 22, LEAST, MOST}) {
            Check.noArgument("rate " + wrong, () -> city.burst(0, wrong, 1));
        }
        for (int wrong : new int[] {0, -1, 61, 62, LEAST, MOST}) {
            Check.noArgument("minutes " + wrong, () -> city.burst(0, 1, wrong));
        }
        Check.sentence("Promise 48", "IllegalStateException if a hydrant is open on this cell");
        Check.same("none is open any more", city.burst(0, 1, 2), 1);
        Check.noState("with 2 minutes left", () -> city.burst(0, 20, 60));
        city.passMinutes(1);
        Check.noState("with 1 minute left", () -> city.burst(0, 20, 60));
        Check.same("on another cell", city.burst(1, 1, 1), 2);
        city.shut(1);
        Check.same("behind shut", city.burst(1, 2, 2), 2);
        city.passMinutes(1);
        Check.same("with none left", city.burst(0, 1, 1), 2);
        Check.sentence("Promise 48", "Returns the number of open hydrants afterwards");
        PuddleCity most = Check.city(Texts.repeated("row 1 1 1 1 1 1 1 1;", 8));
        for (int cell = 0; cell < 64; cell++) {
            Check.same("open", most.burst(cell, 1, 1), cell + 1);
        }
    }

    private static void shut() {
        Check.sentence("Promise 49", "Returns the minutes that it would have stayed open");
        PuddleCity city = Check.city(TWO);
        city.burst(0, 1, 60);
        city.burst(3, 1, 2);
        Check.same("all of them", city.shut(0), 60);
        city.passMinutes(1);
        Check.same("the last one", city.shut(3), 1);
        Check.sentence("Promise 49", "IllegalStateException if no hydrant is open on this cell");
        Check.noState("never opened", () -> city.shut(1));
        Check.noState("shut before", () -> city.shut(0));
        city.burst(2, 1, 1);
        city.passMinutes(1);
        Check.noState("shut by itself", () -> city.shut(2));
        city.passMinutes(1);
        Check.same("nothing more has come", city.fromHydrants(), 2);
    }

    private static void dropLeaves() {
        Check.sentence("Promise 50", "number of leaves, 1 to 9");
        PuddleCity city = Check.city(TWO);
        Check.same("the fewest", city.dropLeaves(0, 1), 1);
        Check.same("the most", city.dropLeaves(0, 9), 10);
        Check.same("on the last cell", city.dropLeaves(3, 9), 9);
        Check.sentence("Promise 50", "IllegalArgumentException if count is outside its range");
        for (int wrong : new int[] {0, -1, 10, 11, LEAST, MOST}) {
            Check.noArgument("count " + wrong, () -> city.dropLeaves(0, wrong));
        }
        Check.same("the leaves stay", Check.leaves(city), "10 0 0 9");
    }

    private static void sweep() {
        Check.sentence("Promise 51", "Returns the number of leaves swept");
        PuddleCity city = Check.city(TWO + "gutter 0 1;");
        Check.same("none", city.sweep(0), 0);
        for (int i = 1; i <= 12; i++) {
            city.dropLeaves(0, 9);
        }
        city.dropLeaves(1, 1);
        Check.same("all of many", city.sweep(0), 108);
        Check.same("none is left", city.sweep(0), 0);
        Check.same("the gutter flows", city.gutterFlow(0), 1);
        Check.same("those elsewhere stay", Check.leaves(city), "0 1 0 0");
    }

    private static void walk() {
        Check.sentence("Promise 52", "IllegalStateException if there is no neighbour in this direction");
        PuddleCity city = Check.city(TWO + "boots a 0 1;boots b 3 1;");
        Check.noState("NORTH of the first cell", () -> city.walk(0, PuddleCity.NORTH));
        Check.noState("WEST of the first cell", () -> city.walk(0, PuddleCity.WEST));
        Check.noState("EAST of the last cell", () -> city.walk(1, PuddleCity.EAST));
        Check.noState("SOUTH of the last cell", () -> city.walk(1, PuddleCity.SOUTH));
        Check.sentence("Promise 52", "Returns the cell of the boots afterwards");
        Check.same("to the end of the row", city.walk(0, PuddleCity.EAST), 1);
        Check.noState("EAST of the end of the row", () -> city.walk(0, PuddleCity.EAST));
        Check.same("to the first cell", city.walk(0, PuddleCity.WEST), 0);
        Check.same("to the start of the last row", city.walk(1, PuddleCity.WEST), 2);
        Check.noState("WEST of the start of the row", () -> city.walk(1, PuddleCity.WEST));
        Check.same("to the first cell, too", city.walk(1, PuddleCity.NORTH), 0);
        Check.sentence("Promise 52", "IllegalArgumentException if direction is outside its range");
        for (int wrong : new int[] {-1, 4, 5, LEAST, MOST}) {
            Check.noArgument("direction " + wrong, () -> city.walk(0, wrong));
        }
        Check.same("the boots stay", city.placeOf(0), 0);
    }

    private static void splash() {
        Check.sentence("Promise 53", "IllegalStateException if the cell is dry");
        PuddleCity city = Check.city(PIT + "boots a 0 9;boots b 3 9;");
        Check.noState("a dry city", () -> city.splash(0));
        city.burst(0, 1, 1);
        city.passMinutes(1);
        Check.noState("a dry cell beside", () -> city.splash(1));
        Check.sentence("Promise 53", "Returns the units of water that were thrown to neighbours");
        Check.same("of one unit", city.splash(0), 0);
        Check.same("the unit stays", city.waterOn(0), 1);
        city.burst(0, 3, 1);
        city.passMinutes(1);
        Check.same("of four units", city.splash(0), 0);
        city.burst(0, 1, 1);
        city.passMinutes(1);
        Check.same("of five units", city.splash(0), 2);
        Check.same("three stay", Check.waters(city), "3 1 1 0");
        Check.same("splashes", city.splashesOf(0), 3);
    }

    private static void passMinutes() {
        Check.sentence("Promise 54", "number of minutes, 1 to 60");
        PuddleCity city = Check.city("row 0 0;row 0 0;rain 1;gutter 0 1;");
        Check.same("the fewest", city.passMinutes(1), 1);
        Check.same("the most", city.passMinutes(60), 60);
        Check.same("without a gutter", Check.city(TWO + "rain 9;").passMinutes(60), 0);
        Check.sentence("Promise 54", "IllegalArgumentException if minutes is outside its range");
        for (int wrong : new int[] {0, -1, 61, 62, LEAST, MOST}) {
            Check.noArgument("minutes " + wrong, () -> city.passMinutes(wrong));
        }
        Check.same("the minute stays", city.minute(), 61);
        Check.sentence("Promise 54", "IllegalStateException if the minute would exceed 999");
        PuddleCity late = Check.city(TWO);
        toMinute(late, 939);
        Check.same("60 to 999", late.passMinutes(60), 0);
        Check.same("999", late.minute(), 999);
        Check.noState("one more", () -> late.passMinutes(1));
        Check.noState("60 more", () -> late.passMinutes(60));
        late.undo();
        late.passMinutes(1);
        Check.noState("60 from 940", () -> late.passMinutes(60));
        Check.same("the minute stays", late.minute(), 940);
        late.passMinutes(58);
        Check.same("998", late.minute(), 998);
        Check.noState("2 from 998", () -> late.passMinutes(2));
        late.passMinutes(1);
        Check.same("1 from 998", late.minute(), 999);
    }

    private static void undo() {
        Check.sentence("Promise 55", "NoSuchElementException if there is no change to undo");
        PuddleCity city = new PuddleCity();
        Check.noElement("a new object", city::undo);
        city.setRain(2);
        Check.same("the only one", city.undo(), 0);
        Check.noElement("it was undone", city::undo);
        Check.same("the rain stays", city.rain(), 1);
        Check.feed(city, TWO);
        city.setRain(2);
        city.loadSetup();
        Check.noElement("a new setup", city::undo);
        city.saveState();
        city.setRain(2);
        city.restoreState();
        Check.noElement("a restored state", city::undo);
        Check.sentence("Promise 55", "Undoes the latest change that has not been undone");
        city.setRain(3);
        city.setRain(4);
        city.setRain(5);
        Check.same("the latest", city.undo(), 2);
        Check.same("before it", city.rain(), 4);
        Check.same("the one before", city.undo(), 1);
        Check.same("before that", city.rain(), 3);
        city.setRain(6);
        Check.same("a new one", city.undo(), 1);
        Check.same("before it", city.rain(), 3);
        Check.same("the first", city.undo(), 0);
        Check.same("before all", city.rain(), 0);
        Check.sentence("Promise 55",
                "The input buffer, the reported text error, the output and the saved state stay as they are");
        PuddleCity kept = Check.city(TWO);
        kept.setRain(4);
        kept.saveState();
        kept.setRain(5);
        kept.writeRow(0);
        Check.script(kept, "pass 1;x");
        Check.feed(kept, "rain 8;");
        kept.undo();
        kept.undo();
        Check.same("the error", kept.errorCode(), PuddleCity.SYNTAX);
        Check.same("its offset", kept.errorOffset(), 7);
        Check.same("the output", Check.output(kept), "..");
        Check.same("the buffer", kept.runScript(), 1);
        Check.same("its rain", kept.rain(), 8);
        Check.same("the saved state", kept.restoreState(), 0);
        Check.same("its rain", kept.rain(), 4);
    }

    private static void writeRow() {
        Check.sentence("Promise 56",
                "a full stop (byte 46) if it is dry, a digit if it has 1 to 9 units of water, and a plus "
                + "sign (byte 43) for more");
        PuddleCity flat = Check.city("row 0 0;row 0 0;");
        String due = ".123456789+";
        for (int units = 0; units <= 10; units++) {
            Check.same("length", flat.writeRow(1), 2);
            Check.same("both cells with " + units, Check.output(flat),
                    "" + due.charAt(units) + due.charAt(units));
            flat.setRain(units == 9 ? 2 : 1);
            flat.passMinutes(1);
        }
        Check.same("eleven on both, one evaporated before", flat.waterOn(3), 11);
        flat.setRain(9);
        flat.passMinutes(60);
        flat.passMinutes(60);
        Check.yes("more than a thousand", flat.waterOn(3) > 1000);
        flat.writeRow(0);
        Check.same("one sign each", Check.output(flat), "++");
        Check.sentence("Promise 56", "a percent sign (byte 37) follows if the cell has leaves");
        PuddleCity leaves = Check.city("row 1 1 1 1 1 1 1 1;row 1 1 1 1 1 1 1 1;");
        Check.same("no leaves", leaves.writeRow(0), 8);
        leaves.dropLeaves(7, 1);
        Check.same("one leaf on the last cell of the row", leaves.writeRow(0), 9);
        Check.same("behind it", Check.output(leaves), "........%");
        Check.same("not in the other row", leaves.writeRow(1), 8);
        leaves.dropLeaves(8, 9);
        leaves.dropLeaves(8, 9);
        leaves.writeRow(1);
        Check.same("one sign for many leaves", Check.output(leaves), ".%.......");
        for (int cell = 0; cell < 8; cell++) {
            leaves.dropLeaves(cell, 1);
        }
        Check.same("leaves on all cells", leaves.writeRow(0), 16);
        Check.same("the longest output", Check.output(leaves), ".%.%.%.%.%.%.%.%");
        leaves.sweep(0);
        Check.same("swept", leaves.writeRow(0), 15);

        Check.sentence("Promise 56", "and replaces the former output");
        Check.same("a shorter row", leaves.writeRow(1), 9);
        Check.same("nothing of the longer one", leaves.outputByte(9), NONE);
        Check.sentence("Promise 56", "IndexOutOfBoundsException if there is no such row");
        PuddleCity high = Check.city(Texts.repeated("row 1 1;", 8));
        for (int wrong : new int[] {-1, 2, 8, LEAST, MOST}) {
            Check.noIndex("row " + wrong + " of 2", () -> leaves.writeRow(wrong));
        }
        for (int wrong : new int[] {-1, 8, 9, LEAST, MOST}) {
            Check.noIndex("row " + wrong + " of 8", () -> high.writeRow(wrong));
        }
        Check.same("the last row of 8", high.writeRow(7), 2);
        Check.same("the output stays when refused", leaves.outputByte(8), '.');
    }

    private static void outputByte() {
        Check.sentence("Promise 57", "or NONE if there is no byte with this index");
        PuddleCity city = Check.city(TWO);
        for (int index : new int[] {0, 1, -1, 15, 16, LEAST, MOST}) {
            Check.same("nothing written", city.outputByte(index), NONE);
        }
        city.writeRow(0);
        Check.same("the first", city.outputByte(0), '.');
        Check.same("the last", city.outputByte(1), '.');
        for (int index : new int[] {2, -1, 15, 16, LEAST, MOST}) {
            Check.same("index " + index, city.outputByte(index), NONE);
        }
        city.dropLeaves(1, 1);
        city.writeRow(0);
        Check.same("behind a percent sign", city.outputByte(3), NONE);
        Check.same("a percent sign", city.outputByte(2), '%');
        city.writeRow(1);
        Check.same("a byte of the former output", city.outputByte(2), NONE);
    }

    private static void saveState() {
        Check.sentence("Promise 58", "Saves the state and replaces the state saved before");
        PuddleCity city = Check.city(TWO);
        Check.same("at the first minute", city.saveState(), 0);
        toMinute(city, 999);
        Check.same("at the last minute", city.saveState(), 999);
        city.undo();
        Check.same("only the later one", city.restoreState(), 999);
        Check.sentence("Promise 58", "The saved state does not contain the changes that can be undone");
        PuddleCity changed = Check.city(TWO);
        for (int i = 0; i < 8; i++) {
            changed.setRain(i);
        }
        changed.saveState();
        Check.same("saving is no change and keeps all", changed.undo(), 7);
        changed.restoreState();
        Check.noElement("they are not saved", changed::undo);
        Check.same("what they did is", changed.rain(), 7);
    }

    private static void restoreState() {
        Check.sentence("Promise 59", "NoSuchElementException if no state is saved");
        PuddleCity city = new PuddleCity();
        Check.noElement("a new object", city::restoreState);
        city.passMinutes(1);
        Check.noElement("behind a change", city::restoreState);
        city.saveState();
        Check.feed(city, "row 1 1;");
        city.loadSetup();
        Check.same("behind an invalid setup", city.restoreState(), 1);
        Check.feed(city, TWO);
        city.loadSetup();
        Check.noElement("behind a setup", city::restoreState);
        Check.sentence("Promise 59", "which stays saved");
        city.dropLeaves(3, 9);
        city.saveState();
        String saved = Check.picture(city);
        for (int i = 0; i < 10; i++) {
            city.sweep(3);
            city.burst(0, 20, 60);
            city.passMinutes(60);
            Check.same("the minute", city.restoreState(), 0);
            Check.same("time " + i, Check.picture(city), saved);
        }
        city.saveState();
        Check.same("twice the same", city.restoreState(), 0);
        Check.same("it is still there", Check.picture(city), saved);
        Check.sentence("Promise 59", "No change can be undone afterwards");
        for (int i = 0; i < 9; i++) {
            city.dropLeaves(3, 1);
        }
        city.restoreState();
        Check.noElement("none of 9", city::undo);
        Check.same("all as saved", Check.picture(city), saved);
        city.dropLeaves(3, 1);
        Check.same("the next one can", city.undo(), 0);
        Check.same("and is undone", Check.picture(city), saved);
    }

    private static void lastCall() {
        Check.sentence("What it is", "An object is used for at most 512 calls after it has been made");
        PuddleCity city = new PuddleCity();
        for (int call = 1; call <= 511; call++) {
            city.dropLeaves(8, 9);
        }
        Check.same("the 512th call", city.dropLeaves(8, 9), 512 * 9);
        PuddleCity asked = new PuddleCity();
        asked.burst(0, 20, 60);
        asked.passMinutes(1);
        for (int call = 3; call <= 511; call++) {
            asked.minutesUntilDry(8);
        }
        Check.same("the 512th call behind the dearest ones", asked.undo(), 1);
        PuddleCity refused = new PuddleCity();
        for (int call = 1; call <= 511; call++) {
            Check.noIndex("call " + call, () -> refused.sweep(9));
        }
        Check.noElement("the 512th call behind refused ones", refused::undo);
    }
}
