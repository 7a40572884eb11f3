/** Promises 2 and 3: the input buffer. */
final class InputTest {
    public static void main(String[] args) {
        orderOfBytes();
        limit();
        truncate();
        whatIsCutOffDoesNotCount();
        Check.finish();
    }

    private static void orderOfBytes() {
        PuddleCity city = new PuddleCity();
        // "row 1 2;row 3 4;" and four bytes of which the last one begins no token
        Check.same("2: length", city.appendInput(0x726f7720, 0x3120323b, 0x726f7720, 0x3320343b,
                0x20200aff), 20);
        Check.same("2: refused byte", city.loadSetup(), PuddleCity.NONE);
        Check.same("2: code of byte 255", city.errorCode(), PuddleCity.SYNTAX);
        Check.same("2: the last byte of the last parameter is the last", city.errorOffset(), 19);
        Check.same("2: length after the buffer was emptied", city.appendInput(0x726f7720, 0x3120323b,
                0x726f7720, 0x3320343b, 0x20200a20), 20);
        Check.same("2: cells", city.loadSetup(), 4);
        for (int cell = 0; cell < 4; cell++) {
            Check.same("2: heightOf " + cell, city.heightOf(cell), cell + 1);
        }
    }

    private static void limit() {
        PuddleCity city = new PuddleCity();
        for (int i = 1; i <= 30; i++) {
            Check.same("2: length " + i, city.appendInput(0x20202020, 0x20202020, 0x20202020,
                    0x20202020, 0x20202020), 20 * i);
        }
        Check.same("2: past 600", city.appendInput(1, 2, 3, 4, 5), PuddleCity.NONE);
        Check.no("3: nothing was appended", city.truncateInput(601));
        Check.yes("3: to 581", city.truncateInput(581));
        Check.same("2: 601 is too long", city.appendInput(1, 2, 3, 4, 5), PuddleCity.NONE);
        Check.yes("3: the length is still 581", city.truncateInput(581) && !city.truncateInput(582));
        Check.yes("3: to 580", city.truncateInput(580));
        Check.same("2: 600 fits", city.appendInput(0x20202020, 0x20202020, 0x20202020, 0x20202020,
                0x2020203b), 600);
        Check.same("2: past 600 again", city.appendInput(1, 2, 3, 4, 5), PuddleCity.NONE);
        Check.same("2: the last byte is read", city.loadSetup(), PuddleCity.NONE);
        Check.same("2: its offset", city.errorOffset(), 599);

        StringBuilder full = new StringBuilder("row 1 2;row 3 4;rain 7;");
        while (full.length() < 600) {
            full.append(' ');
        }
        Check.feed(city, full.toString());
        Check.same("2: a refused append changes nothing", city.appendInput(1, 2, 3, 4, 5), -1);
        Check.same("2: the full buffer is a setup", city.loadSetup(), 4);
        Check.same("2: its rain", city.rain(), 7);
    }

    private static void truncate() {
        PuddleCity city = new PuddleCity();
        Check.yes("3: 0 of an empty buffer", city.truncateInput(0));
        Check.no("3: 1 of an empty buffer", city.truncateInput(1));
        Check.no("3: -1", city.truncateInput(-1));
        Check.no("3: the least int", city.truncateInput(Integer.MIN_VALUE));
        Check.no("3: the greatest int", city.truncateInput(Integer.MAX_VALUE));
        city.appendInput(0x726f7720, 0x3120323b, 0x726f7720, 0x3320343b, 0x3b3b3b3b);
        Check.no("3: more than the length", city.truncateInput(21));
        Check.no("3: negative length", city.truncateInput(-1));
        Check.yes("3: the length itself", city.truncateInput(20));
        Check.yes("3: 16", city.truncateInput(16));
        Check.no("3: 17 of 16", city.truncateInput(17));
        Check.same("3: what is left is a setup", city.loadSetup(), 4);
        Check.no("3: the buffer was emptied", city.truncateInput(1));
        city.appendInput(0x726f7720, 0x3120323b, 0x726f7720, 0x3320343b, 0x3b3b3b3b);
        city.truncateInput(8);
        Check.same("2: appended behind what is left", city.appendInput(0x726f7720, 0x3520363b,
                0x20202020, 0x20202020, 0x20202020), 28);
        Check.same("2: both parts are a setup", city.loadSetup(), 4);
        Check.same("2: height of the first part", city.heightOf(1), 2);
        Check.same("2: height of the second part", city.heightOf(3), 6);
    }

    /** The script without its end, which stays behind the end of the buffer: it is an error there. */
    private static void cutOff(String script, int length) {
        PuddleCity city = new PuddleCity();
        Check.feed(city, script);
        city.truncateInput(length);
        Check.same("3: cut off from " + script, city.runScript(), PuddleCity.NONE);
        Check.same("6: code", city.errorCode(), PuddleCity.SYNTAX);
        Check.same("7: offset", city.errorOffset(), length);
    }

    private static void whatIsCutOffDoesNotCount() {
        cutOff("rain 10;", 6);
        cutOff("rain 1;", 6);
        cutOff("rain 1;", 5);
        cutOff("rain 1;", 4);
        cutOff("walk anna 1;", 8);
        cutOff("walk ann 1;", 9);
        cutOff("pass 1 ;", 7);
        PuddleCity city = new PuddleCity();
        Check.feed(city, "passage 1;");
        city.truncateInput(4);
        city.runScript();
        Check.same("7: the word ends with the buffer", city.errorOffset(), 4);
        Check.feed(city, "pass 1;rain 3;");
        city.truncateInput(7);
        Check.same("5: one statement is left", city.runScript(), 1);
        Check.same("11: the other one was cut off", city.rain(), 1);
    }
}
