/** The calls that README.md shows, with the answers that it tells. */
final class ReadmeTest {
    public static void main(String[] args) {
        PuddleCity city = new PuddleCity();
        askChangeUndo(city);
        ownCity(city);
        textError(city);
        longScript();
        Check.finish();
    }

    private static void askChangeUndo(PuddleCity city) {
        Check.same("54: drained", city.passMinutes(1), 2);
        Check.same("13: waterOn", city.waterOn(4), 2);
        Check.yes("38: isWet", city.isWet(1));
        Check.same("24: puddleCount", city.puddleCount(), 3);
        Check.same("52: walk", city.walk(1, PuddleCity.EAST), 5);
        Check.same("55: the walk undone", city.undo(), 1);
        Check.same("36: bob is back", city.placeOf(1), 4);
        Check.same("55: the minute undone", city.undo(), 0);
        Check.same("8: minute", city.minute(), 0);
    }

    private static void ownCity(PuddleCity city) {
        Check.same("2: appendInput",
                city.appendInput(0x726f7720, 0x3020303b, 0x726f7720, 0x3020303b, 0x20202020), 20);
        Check.yes("3: truncateInput", city.truncateInput(16));
        Check.same("4: loadSetup", city.loadSetup(), 4);
    }

    private static void textError(PuddleCity city) {
        Check.same("2: appendInput",
                city.appendInput(0x7261696e, 0x2031303b, 0x20202020, 0x20202020, 0x20202020), 20);
        Check.same("5: runScript", city.runScript(), PuddleCity.NONE);
        Check.same("6: errorCode", city.errorCode(), PuddleCity.OUT_OF_RANGE);
        Check.same("7: errorOffset", city.errorOffset(), 5);
    }

    private static void longScript() {
        Check.same("5: every statement", Check.script(new PuddleCity(),
                "rain 3;burst 0 5 7;shut 0;leaves 1 2;sweep 1;pass 10;walk ann 1;splash ann;"), 8);
        Check.same("5: those before the one that is not possible", Check.script(new PuddleCity(),
                "rain 3;walk ann 1;splash ann;pass 10;"), 2);
    }
}
