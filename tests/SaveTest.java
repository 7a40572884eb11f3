/** Promises 58 and 59: saving and restoring the state. */
final class SaveTest {
    public static void main(String[] args) {
        PuddleCity city = Check.city("row 9 0 1;row 3 9 0;gutter 5 2;rain 3;boots a 1 1;boots b 5 2;");
        Check.noElement("59: nothing saved", city::restoreState);
        city.dropLeaves(0, 9);
        city.burst(0, 9, 30);
        city.passMinutes(11);
        city.splash(0);
        String saved = Check.picture(city);
        Check.same("58: the minute", city.saveState(), 11);
        Check.same("58: nothing changes", Check.picture(city), saved);
        Check.same("58: the changes stay", city.undo(), 3);
        Check.same("55: undone behind saveState", city.splashesOf(0), 0);
        city.sweep(0);
        city.setRain(0);
        city.walk(0, PuddleCity.EAST);
        city.passMinutes(30);
        Check.same("59: the minute", city.restoreState(), 11);
        Check.same("59: all as saved", Check.picture(city), saved);
        Check.noElement("59: no change can be undone", city::undo);
        city.passMinutes(5);
        Check.same("59: it stays saved", city.restoreState(), 11);
        Check.same("59: all as saved again", Check.picture(city), saved);
        Check.noElement("59: no change can be undone", city::undo);
        city.passMinutes(20);
        Check.same("58: saved anew", city.saveState(), 31);
        String later = Check.picture(city);
        city.passMinutes(20);
        Check.same("59: the later one", city.restoreState(), 31);
        Check.same("59: all as saved later", Check.picture(city), later);
        restoredStateIsFree(city, later);
        whatStays();
        goneWithASetup();
        Check.finish();
    }

    private static void restoredStateIsFree(PuddleCity city, String later) {
        city.dropLeaves(2, 9);
        city.burst(3, 9, 9);
        city.walk(0, PuddleCity.WEST);
        city.passMinutes(3);
        Check.same("55: changes behind restoreState", city.undo(), 3);
        city.restoreState();
        Check.same("59: they did not change what is saved", Check.picture(city), later);
    }

    private static void whatStays() {
        PuddleCity city = new PuddleCity();
        city.saveState();
        city.passMinutes(12);
        city.writeRow(1);
        String output = Check.output(city);
        Check.script(city, "pass 1;pass 61;");
        city.appendInput(0x7261696e, 0x20333b20, 0x20202020, 0x20202020, 0x20202020);
        Check.same("59: minute", city.restoreState(), 0);
        Check.same("59: the output is not of the city", Check.output(city), output);
        Check.same("59: nor is the error", city.errorCode(), PuddleCity.OUT_OF_RANGE);
        Check.same("59: nor its offset", city.errorOffset(), 12);
        Check.same("59: nor the buffer", city.runScript(), 1);
        Check.same("11: rain by the script", city.rain(), 3);
        Check.same("55: the script can be undone", city.undo(), 0);
        Check.same("11: rain as saved", city.rain(), 1);
    }

    private static void goneWithASetup() {
        PuddleCity city = new PuddleCity();
        city.saveState();
        Check.feed(city, "row 1 1;");
        city.loadSetup();
        Check.same("59: a bad setup leaves it", city.restoreState(), 0);
        Check.feed(city, "row 1 1;row 1 1;");
        city.loadSetup();
        Check.noElement("59: a good setup does not", city::restoreState);
        Check.same("58: saved in the new city", city.saveState(), 0);
        Check.same("59: restored in the new city", city.restoreState(), 0);
    }
}
